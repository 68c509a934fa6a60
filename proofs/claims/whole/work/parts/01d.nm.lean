theorem dX5_settled_5 : decode cX5_settled 5 = .ok (.iload_n 1, 1) := by decide +kernel
theorem dX5_settled_6 : decode cX5_settled 6 = .ok (.invokevirtual 68, 3) := by decide +kernel
theorem dX5_settled_9 : decode cX5_settled 9 = .ok (.ireturn, 1) := by decide +kernel
theorem dX5_settled_10 : decode cX5_settled 10 = .ok (.aload_n 0, 1) := by decide +kernel
theorem dX5_settled_11 : decode cX5_settled 11 = .ok (.invokevirtual 155, 3) := by decide +kernel
theorem dX5_settled_14 : decode cX5_settled 14 = .ok (.iload_n 1, 1) := by decide +kernel
theorem dX5_settled_15 : decode cX5_settled 15 = .ok (.ireturn, 1) := by decide +kernel
theorem dX5_keepDraft_0 : decode cX5_keepDraft 0 = .ok (.aload_n 0, 1) := by decide +kernel
theorem dX5_keepDraft_1 : decode cX5_keepDraft 1 = .ok (.getfield 158, 3) := by decide +kernel
theorem dX5_keepDraft_4 : decode cX5_keepDraft 4 = .ok (.iconst 5, 1) := by decide +kernel
theorem dX5_keepDraft_5 : decode cX5_keepDraft 5 = .ok (.if_icmp .ge 39, 3) := by decide +kernel
theorem dX5_keepDraft_8 : decode cX5_keepDraft 8 = .ok (.aload_n 0, 1) := by decide +kernel
theorem dX5_keepDraft_9 : decode cX5_keepDraft 9 = .ok (.getfield 33, 3) := by decide +kernel
theorem dX5_keepDraft_12 : decode cX5_keepDraft 12 = .ok (.aload_n 0, 1) := by decide +kernel
theorem dX5_keepDraft_13 : decode cX5_keepDraft 13 = .ok (.getfield 158, 3) := by decide +kernel
theorem dX5_keepDraft_16 : decode cX5_keepDraft 16 = .ok (.aaload, 1) := by decide +kernel
theorem dX5_keepDraft_17 : decode cX5_keepDraft 17 = .ok (.astore_n 1, 1) := by decide +kernel
theorem dX5_keepDraft_18 : decode cX5_keepDraft 18 = .ok (.aload_n 0, 1) := by decide +kernel
theorem dX5_keepDraft_19 : decode cX5_keepDraft 19 = .ok (.getfield 33, 3) := by decide +kernel
theorem dX5_keepDraft_22 : decode cX5_keepDraft 22 = .ok (.aload_n 0, 1) := by decide +kernel
theorem dX5_keepDraft_23 : decode cX5_keepDraft 23 = .ok (.getfield 158, 3) := by decide +kernel
theorem dX5_keepDraft_26 : decode cX5_keepDraft 26 = .ok (.aload_n 0, 1) := by decide +kernel
theorem dX5_keepDraft_27 : decode cX5_keepDraft 27 = .ok (.getfield 26, 3) := by decide +kernel
theorem dX5_keepDraft_30 : decode cX5_keepDraft 30 = .ok (.aastore, 1) := by decide +kernel
theorem dX5_keepDraft_31 : decode cX5_keepDraft 31 = .ok (.aload_n 0, 1) := by decide +kernel
theorem dX5_keepDraft_32 : decode cX5_keepDraft 32 = .ok (.dup, 1) := by decide +kernel
theorem dX5_keepDraft_33 : decode cX5_keepDraft 33 = .ok (.getfield 158, 3) := by decide +kernel
theorem dX5_keepDraft_36 : decode cX5_keepDraft 36 = .ok (.iconst 1, 1) := by decide +kernel
theorem dX5_keepDraft_37 : decode cX5_keepDraft 37 = .ok (.iadd, 1) := by decide +kernel
theorem dX5_keepDraft_38 : decode cX5_keepDraft 38 = .ok (.putfield 158, 3) := by decide +kernel
theorem dX5_keepDraft_41 : decode cX5_keepDraft 41 = .ok (.goto 47, 3) := by decide +kernel
theorem dX5_keepDraft_44 : decode cX5_keepDraft 44 = .ok (.aload_n 0, 1) := by decide +kernel
theorem dX5_keepDraft_45 : decode cX5_keepDraft 45 = .ok (.getfield 33, 3) := by decide +kernel
theorem dX5_keepDraft_48 : decode cX5_keepDraft 48 = .ok (.iconst 0, 1) := by decide +kernel
theorem dX5_keepDraft_49 : decode cX5_keepDraft 49 = .ok (.aaload, 1) := by decide +kernel
theorem dX5_keepDraft_50 : decode cX5_keepDraft 50 = .ok (.astore_n 1, 1) := by decide +kernel
theorem dX5_keepDraft_51 : decode cX5_keepDraft 51 = .ok (.iconst 1, 1) := by decide +kernel
theorem dX5_keepDraft_52 : decode cX5_keepDraft 52 = .ok (.istore_n 2, 1) := by decide +kernel
theorem dX5_keepDraft_53 : decode cX5_keepDraft 53 = .ok (.iload_n 2, 1) := by decide +kernel
theorem dX5_keepDraft_54 : decode cX5_keepDraft 54 = .ok (.iconst 5, 1) := by decide +kernel
theorem dX5_keepDraft_55 : decode cX5_keepDraft 55 = .ok (.if_icmp .ge 23, 3) := by decide +kernel
theorem dX5_keepDraft_58 : decode cX5_keepDraft 58 = .ok (.aload_n 0, 1) := by decide +kernel
theorem dX5_keepDraft_59 : decode cX5_keepDraft 59 = .ok (.getfield 33, 3) := by decide +kernel
theorem dX5_keepDraft_62 : decode cX5_keepDraft 62 = .ok (.iload_n 2, 1) := by decide +kernel
theorem dX5_keepDraft_63 : decode cX5_keepDraft 63 = .ok (.iconst 1, 1) := by decide +kernel
theorem dX5_keepDraft_64 : decode cX5_keepDraft 64 = .ok (.isub, 1) := by decide +kernel
theorem dX5_keepDraft_65 : decode cX5_keepDraft 65 = .ok (.aload_n 0, 1) := by decide +kernel
theorem dX5_keepDraft_66 : decode cX5_keepDraft 66 = .ok (.getfield 33, 3) := by decide +kernel
theorem dX5_keepDraft_69 : decode cX5_keepDraft 69 = .ok (.iload_n 2, 1) := by decide +kernel
theorem dX5_keepDraft_70 : decode cX5_keepDraft 70 = .ok (.aaload, 1) := by decide +kernel
theorem dX5_keepDraft_71 : decode cX5_keepDraft 71 = .ok (.aastore, 1) := by decide +kernel
theorem dX5_keepDraft_72 : decode cX5_keepDraft 72 = .ok (.iinc 2 1, 3) := by decide +kernel
theorem dX5_keepDraft_75 : decode cX5_keepDraft 75 = .ok (.goto (-22), 3) := by decide +kernel
theorem dX5_keepDraft_78 : decode cX5_keepDraft 78 = .ok (.aload_n 0, 1) := by decide +kernel
theorem dX5_keepDraft_79 : decode cX5_keepDraft 79 = .ok (.getfield 33, 3) := by decide +kernel
theorem dX5_keepDraft_82 : decode cX5_keepDraft 82 = .ok (.iconst 4, 1) := by decide +kernel
theorem dX5_keepDraft_83 : decode cX5_keepDraft 83 = .ok (.aload_n 0, 1) := by decide +kernel
theorem dX5_keepDraft_84 : decode cX5_keepDraft 84 = .ok (.getfield 26, 3) := by decide +kernel
theorem dX5_keepDraft_87 : decode cX5_keepDraft 87 = .ok (.aastore, 1) := by decide +kernel
theorem dX5_keepDraft_88 : decode cX5_keepDraft 88 = .ok (.aload_n 0, 1) := by decide +kernel
theorem dX5_keepDraft_89 : decode cX5_keepDraft 89 = .ok (.aload_n 0, 1) := by decide +kernel
theorem dX5_keepDraft_90 : decode cX5_keepDraft 90 = .ok (.getfield 30, 3) := by decide +kernel
theorem dX5_keepDraft_93 : decode cX5_keepDraft 93 = .ok (.putfield 26, 3) := by decide +kernel
theorem dX5_keepDraft_96 : decode cX5_keepDraft 96 = .ok (.aload_n 0, 1) := by decide +kernel
theorem dX5_keepDraft_97 : decode cX5_keepDraft 97 = .ok (.aload_n 1, 1) := by decide +kernel
theorem dX5_keepDraft_98 : decode cX5_keepDraft 98 = .ok (.putfield 30, 3) := by decide +kernel
theorem dX5_keepDraft_101 : decode cX5_keepDraft 101 = .ok (.return_, 1) := by decide +kernel
set_option maxRecDepth 20000 in
theorem ggX5_obeyed_X3_letterOf : GoodIn wsX5_obeyed wsX3_letterOf := goodIn_r _ [7, 8, 9, 10, 11, 191, 192, 193, 194, 195, 196, 197, 198] (by decide +kernel) (by decide +kernel)
set_option maxRecDepth 20000 in
theorem gX5_obeyed_X3_letterOf : GoodIn wsX5_obeyed (wsV RX5 197 RX3 yX3_letterOf wsX3_letterOf) := goodIn_app (goodIn_of _ (by decide +kernel)) ggX5_obeyed_X3_letterOf
set_option maxRecDepth 20000 in
theorem ggX5_obeyed_X4_addGiven : GoodIn wsX5_obeyed wsX4_addGiven := goodIn_r _ [16, 17, 18, 19, 20, 6, 21, 22, 23, 9, 10, 11, 24, 25, 26, 27, 28, 29, 30, 31, 32, 33, 34, 35, 36, 37, 38, 39, 40, 41, 42, 43, 44, 45, 46, 47, 48, 49, 50, 51, 52, 53, 54, 199, 200, 201, 202, 203, 204, 205, 206, 191, 192, 193, 194, 195, 196, 197, 198, 207, 208, 209, 210, 211, 212, 213, 214, 215] (by decide +kernel) (by decide +kernel)
set_option maxRecDepth 20000 in
theorem gX5_obeyed_X4_addGiven : GoodIn wsX5_obeyed (wsV RX5 200 RX4 yX4_addGiven wsX4_addGiven) := goodIn_app (goodIn_of _ (by decide +kernel)) ggX5_obeyed_X4_addGiven
set_option maxRecDepth 20000 in
theorem ggX5_obeyed_X3_numberOf : GoodIn wsX5_obeyed wsX3_numberOf := goodIn_r _ [21, 22, 23, 9, 10, 11, 191, 192, 193, 194, 195, 196, 197, 198] (by decide +kernel) (by decide +kernel)
set_option maxRecDepth 20000 in
theorem gX5_obeyed_X3_numberOf : GoodIn wsX5_obeyed (wsV RX5 204 RX3 yX3_numberOf wsX3_numberOf) := goodIn_app (goodIn_of _ (by decide +kernel)) ggX5_obeyed_X3_numberOf
set_option maxRecDepth 20000 in
theorem ggX5_obeyed_X2_putError : GoodIn wsX5_obeyed wsX2_putError := goodIn_r _ [59, 60, 9, 10, 11, 61, 25, 26, 27, 62, 29, 30, 211, 212, 213, 214, 215] (by decide +kernel) (by decide +kernel)
set_option maxRecDepth 20000 in
theorem gX5_obeyed_X2_putError : GoodIn wsX5_obeyed (wsV RX5 53 RX2 yX2_putError wsX2_putError) := goodIn_app (goodIn_of _ (by decide +kernel)) ggX5_obeyed_X2_putError
set_option maxRecDepth 20000 in
theorem ggX5_obeyed_X4_learnErrors : GoodIn wsX5_obeyed wsX4_learnErrors := goodIn_r _ [66, 67, 68, 69, 70, 71, 72, 73, 74, 75, 76, 77, 15, 78, 79, 80, 81, 82, 83, 84, 85, 52, 53, 34, 54, 36, 37, 38, 39, 86, 87, 88, 89, 90, 91, 92, 93, 94, 95, 26, 96, 97, 29, 30, 98, 99, 100, 101, 102, 103, 104, 105, 106, 107, 108, 109, 110, 111, 112, 113, 114, 115, 116, 117, 118, 119, 120, 121, 122, 123, 124, 125, 126, 127, 128, 129, 130, 131, 132, 211, 212, 213, 214, 215, 199, 200, 201, 202, 203, 204, 205, 206, 207, 208, 209, 210] (by decide +kernel) (by decide +kernel)
set_option maxRecDepth 20000 in
theorem gX5_obeyed_X4_learnErrors : GoodIn wsX5_obeyed (wsV RX5 88 RX4 yX4_learnErrors wsX4_learnErrors) := goodIn_app (goodIn_of _ (by decide +kernel)) ggX5_obeyed_X4_learnErrors
set_option maxRecDepth 20000 in
theorem ggX5_obeyed_X4_addReading : GoodIn wsX5_obeyed wsX4_addReading := goodIn_r _ [136, 74, 67, 137, 69, 17, 138, 139, 140, 43, 141, 45, 9, 10, 11, 86, 87, 88, 15, 89, 81, 83, 80, 84, 82, 90, 91, 92, 34, 93, 36, 39, 37, 38, 94, 95, 26, 96, 97, 29, 30, 98, 99, 100, 101, 102, 103, 104, 105, 106, 107, 108, 109, 110, 111, 85, 52, 53, 54, 142, 143, 144, 145, 146, 147, 148, 149, 150, 151, 152, 153, 154, 155, 51, 40, 41, 42, 44, 46, 47, 48, 49, 50, 211, 212, 213, 214, 215, 199, 200, 201, 202, 203, 204, 205, 206, 207, 208, 209, 210] (by decide +kernel) (by decide +kernel)
set_option maxRecDepth 20000 in
theorem gX5_obeyed_X4_addReading : GoodIn wsX5_obeyed (wsV RX5 98 RX4 yX4_addReading wsX4_addReading) := goodIn_app (goodIn_of _ (by decide +kernel)) ggX5_obeyed_X4_addReading
set_option maxRecDepth 20000 in
theorem ggX5_obeyed_X4_addChain : GoodIn wsX5_obeyed wsX4_addChain := goodIn_r _ [159, 160, 137, 161, 162, 17, 138, 139, 140, 43, 141, 45, 9, 10, 11, 163, 164, 165, 34, 166, 38, 36, 39, 167, 91, 92, 93, 37, 94, 95, 26, 96, 97, 29, 30, 98, 99, 100, 51, 52, 53, 54, 168, 152, 153, 154, 155, 107, 108, 109, 110, 111, 169, 170, 171, 172, 173, 174, 175, 176, 177, 104, 105, 178, 179, 180, 181, 40, 41, 42, 44, 46, 47, 48, 49, 50, 199, 200, 201, 202, 203, 204, 205, 206, 211, 212, 213, 214, 215, 207, 208, 209, 210] (by decide +kernel) (by decide +kernel)
set_option maxRecDepth 20000 in
theorem gX5_obeyed_X4_addChain : GoodIn wsX5_obeyed (wsV RX5 102 RX4 yX4_addChain wsX4_addChain) := goodIn_app (goodIn_of _ (by decide +kernel)) ggX5_obeyed_X4_addChain
theorem dX5_obeyed_0 : decode cX5_obeyed 0 = .ok (.aload_n 0, 1) := by decide +kernel
theorem dX5_obeyed_1 : decode cX5_obeyed 1 = .ok (.getfield 19, 3) := by decide +kernel
theorem dX5_obeyed_4 : decode cX5_obeyed 4 = .ok (.iload_n 2, 1) := by decide +kernel
theorem dX5_obeyed_5 : decode cX5_obeyed 5 = .ok (.invokevirtual 197, 3) := by decide +kernel
theorem dX5_obeyed_8 : decode cX5_obeyed 8 = .ok (.lookupswitch 152 #[(98, 52), (99, 125), (101, 66), (108, 98), (114, 107)], 52) := by decide +kernel
theorem dX5_obeyed_60 : decode cX5_obeyed 60 = .ok (.aload_n 0, 1) := by decide +kernel
theorem dX5_obeyed_61 : decode cX5_obeyed 61 = .ok (.getfield 12, 3) := by decide +kernel
theorem dX5_obeyed_64 : decode cX5_obeyed 64 = .ok (.aload_n 1, 1) := by decide +kernel
theorem dX5_obeyed_65 : decode cX5_obeyed 65 = .ok (.aload_n 0, 1) := by decide +kernel
theorem dX5_obeyed_66 : decode cX5_obeyed 66 = .ok (.getfield 19, 3) := by decide +kernel
theorem dX5_obeyed_69 : decode cX5_obeyed 69 = .ok (.iload_n 2, 1) := by decide +kernel
theorem dX5_obeyed_70 : decode cX5_obeyed 70 = .ok (.invokevirtual 200, 3) := by decide +kernel
theorem dX5_obeyed_73 : decode cX5_obeyed 73 = .ok (.ireturn, 1) := by decide +kernel
theorem dX5_obeyed_74 : decode cX5_obeyed 74 = .ok (.aload_n 1, 1) := by decide +kernel
theorem dX5_obeyed_75 : decode cX5_obeyed 75 = .ok (.aload_n 0, 1) := by decide +kernel
theorem dX5_obeyed_76 : decode cX5_obeyed 76 = .ok (.getfield 19, 3) := by decide +kernel
theorem dX5_obeyed_79 : decode cX5_obeyed 79 = .ok (.iload_n 2, 1) := by decide +kernel
theorem dX5_obeyed_80 : decode cX5_obeyed 80 = .ok (.iconst 0, 1) := by decide +kernel
theorem dX5_obeyed_81 : decode cX5_obeyed 81 = .ok (.invokevirtual 204, 3) := by decide +kernel
theorem dX5_obeyed_84 : decode cX5_obeyed 84 = .ok (.aload_n 0, 1) := by decide +kernel
theorem dX5_obeyed_85 : decode cX5_obeyed 85 = .ok (.getfield 19, 3) := by decide +kernel
theorem dX5_obeyed_88 : decode cX5_obeyed 88 = .ok (.iload_n 2, 1) := by decide +kernel
theorem dX5_obeyed_89 : decode cX5_obeyed 89 = .ok (.iconst 1, 1) := by decide +kernel
theorem dX5_obeyed_90 : decode cX5_obeyed 90 = .ok (.invokevirtual 204, 3) := by decide +kernel
theorem dX5_obeyed_93 : decode cX5_obeyed 93 = .ok (.aload_n 0, 1) := by decide +kernel
theorem dX5_obeyed_94 : decode cX5_obeyed 94 = .ok (.getfield 19, 3) := by decide +kernel
theorem dX5_obeyed_97 : decode cX5_obeyed 97 = .ok (.iload_n 2, 1) := by decide +kernel
theorem dX5_obeyed_98 : decode cX5_obeyed 98 = .ok (.iconst 2, 1) := by decide +kernel
theorem dX5_obeyed_99 : decode cX5_obeyed 99 = .ok (.invokevirtual 204, 3) := by decide +kernel
theorem dX5_obeyed_102 : decode cX5_obeyed 102 = .ok (.invokevirtual 53, 3) := by decide +kernel
theorem dX5_obeyed_105 : decode cX5_obeyed 105 = .ok (.ireturn, 1) := by decide +kernel
theorem dX5_obeyed_106 : decode cX5_obeyed 106 = .ok (.aload_n 0, 1) := by decide +kernel
theorem dX5_obeyed_107 : decode cX5_obeyed 107 = .ok (.getfield 12, 3) := by decide +kernel
theorem dX5_obeyed_110 : decode cX5_obeyed 110 = .ok (.aload_n 1, 1) := by decide +kernel
theorem dX5_obeyed_111 : decode cX5_obeyed 111 = .ok (.invokevirtual 88, 3) := by decide +kernel
theorem dX5_obeyed_114 : decode cX5_obeyed 114 = .ok (.ireturn, 1) := by decide +kernel
theorem dX5_obeyed_115 : decode cX5_obeyed 115 = .ok (.aload_n 0, 1) := by decide +kernel
theorem dX5_obeyed_116 : decode cX5_obeyed 116 = .ok (.getfield 12, 3) := by decide +kernel
theorem dX5_obeyed_119 : decode cX5_obeyed 119 = .ok (.aload_n 1, 1) := by decide +kernel
theorem dX5_obeyed_120 : decode cX5_obeyed 120 = .ok (.aload_n 0, 1) := by decide +kernel
theorem dX5_obeyed_121 : decode cX5_obeyed 121 = .ok (.getfield 19, 3) := by decide +kernel
theorem dX5_obeyed_124 : decode cX5_obeyed 124 = .ok (.iload_n 2, 1) := by decide +kernel
theorem dX5_obeyed_125 : decode cX5_obeyed 125 = .ok (.iconst 0, 1) := by decide +kernel
theorem dX5_obeyed_126 : decode cX5_obeyed 126 = .ok (.invokevirtual 204, 3) := by decide +kernel
theorem dX5_obeyed_129 : decode cX5_obeyed 129 = .ok (.invokevirtual 98, 3) := by decide +kernel
theorem dX5_obeyed_132 : decode cX5_obeyed 132 = .ok (.ireturn, 1) := by decide +kernel
theorem dX5_obeyed_133 : decode cX5_obeyed 133 = .ok (.aload_n 0, 1) := by decide +kernel
theorem dX5_obeyed_134 : decode cX5_obeyed 134 = .ok (.getfield 12, 3) := by decide +kernel
theorem dX5_obeyed_137 : decode cX5_obeyed 137 = .ok (.aload_n 1, 1) := by decide +kernel
theorem dX5_obeyed_138 : decode cX5_obeyed 138 = .ok (.aload_n 0, 1) := by decide +kernel
theorem dX5_obeyed_139 : decode cX5_obeyed 139 = .ok (.getfield 19, 3) := by decide +kernel
theorem dX5_obeyed_142 : decode cX5_obeyed 142 = .ok (.iload_n 2, 1) := by decide +kernel
theorem dX5_obeyed_143 : decode cX5_obeyed 143 = .ok (.iconst 0, 1) := by decide +kernel
theorem dX5_obeyed_144 : decode cX5_obeyed 144 = .ok (.invokevirtual 204, 3) := by decide +kernel
theorem dX5_obeyed_147 : decode cX5_obeyed 147 = .ok (.aload_n 0, 1) := by decide +kernel
theorem dX5_obeyed_148 : decode cX5_obeyed 148 = .ok (.getfield 19, 3) := by decide +kernel
theorem dX5_obeyed_151 : decode cX5_obeyed 151 = .ok (.iload_n 2, 1) := by decide +kernel
theorem dX5_obeyed_152 : decode cX5_obeyed 152 = .ok (.iconst 1, 1) := by decide +kernel
theorem dX5_obeyed_153 : decode cX5_obeyed 153 = .ok (.invokevirtual 204, 3) := by decide +kernel
theorem dX5_obeyed_156 : decode cX5_obeyed 156 = .ok (.invokevirtual 102, 3) := by decide +kernel
theorem dX5_obeyed_159 : decode cX5_obeyed 159 = .ok (.ireturn, 1) := by decide +kernel
theorem dX5_obeyed_160 : decode cX5_obeyed 160 = .ok (.bipush (-2), 2) := by decide +kernel
theorem dX5_obeyed_162 : decode cX5_obeyed 162 = .ok (.ireturn, 1) := by decide +kernel
set_option maxRecDepth 20000 in
theorem ggX5_boxDigest_X0_at : GoodIn wsX5_boxDigest wsX0_at := goodIn_r _ [8, 9, 10, 11, 12, 72, 73, 74, 75] (by decide +kernel) (by decide +kernel)
set_option maxRecDepth 20000 in
theorem gX5_boxDigest_X0_at : GoodIn wsX5_boxDigest (wsV RX5 75 RX0 yX0_at wsX0_at) := goodIn_app (goodIn_of _ (by decide +kernel)) ggX5_boxDigest_X0_at
set_option maxRecDepth 20000 in
theorem ggX5_boxDigest_X0_determinant : GoodIn wsX5_boxDigest wsX0_determinant := goodIn_r _ [16, 9, 12, 10, 11, 17, 18, 19, 20, 21, 22, 23, 24, 25, 26, 72, 73, 74, 75] (by decide +kernel) (by decide +kernel)
set_option maxRecDepth 20000 in
theorem gX5_boxDigest_X0_determinant : GoodIn wsX5_boxDigest (wsV RX5 115 RX0 yX0_determinant wsX0_determinant) := goodIn_app (goodIn_of _ (by decide +kernel)) ggX5_boxDigest_X0_determinant
set_option maxRecDepth 20000 in
theorem ggX5_boxDigest_X5_passed : GoodIn wsX5_boxDigest wsX5_passed := goodIn_r _ [30, 31, 32, 33, 34, 35, 36, 29, 37, 38, 39, 19, 40, 21, 22, 23, 41, 42, 43, 44, 18, 20, 45, 46, 47, 72, 73, 74, 75] (by decide +kernel) (by decide +kernel)
set_option maxRecDepth 20000 in
theorem gX5_boxDigest_X5_passed : GoodIn wsX5_boxDigest (va_wsS RX5 132 yX5_passed wsX5_passed) := goodIn_app (goodIn_of _ (by decide +kernel)) ggX5_boxDigest_X5_passed
set_option maxRecDepth 20000 in
theorem ggX5_boxDigest_X2_leastAlike : GoodIn wsX5_boxDigest wsX2_leastAlike := goodIn_r _ [52, 53, 54, 55, 56, 7, 57, 9, 10, 11, 12, 67, 68, 69, 70, 71, 72, 73, 74, 75] (by decide +kernel) (by decide +kernel)
set_option maxRecDepth 20000 in
theorem gX5_boxDigest_X2_leastAlike : GoodIn wsX5_boxDigest (wsV RX5 136 RX2 yX2_leastAlike wsX2_leastAlike) := goodIn_app (goodIn_of _ (by decide +kernel)) ggX5_boxDigest_X2_leastAlike
theorem dX5_boxDigest_0 : decode cX5_boxDigest 0 = .ok (.aload_n 0, 1) := by decide +kernel
theorem dX5_boxDigest_1 : decode cX5_boxDigest 1 = .ok (.getfield 26, 3) := by decide +kernel
theorem dX5_boxDigest_4 : decode cX5_boxDigest 4 = .ok (.getfield 71, 3) := by decide +kernel
theorem dX5_boxDigest_7 : decode cX5_boxDigest 7 = .ok (.iload_n 3, 1) := by decide +kernel
theorem dX5_boxDigest_8 : decode cX5_boxDigest 8 = .ok (.aaload, 1) := by decide +kernel
theorem dX5_boxDigest_9 : decode cX5_boxDigest 9 = .ok (.astore 4, 2) := by decide +kernel
theorem dX5_boxDigest_11 : decode cX5_boxDigest 11 = .ok (.lload_n 1, 1) := by decide +kernel
theorem dX5_boxDigest_12 : decode cX5_boxDigest 12 = .ok (.lstore 5, 2) := by decide +kernel
theorem dX5_boxDigest_14 : decode cX5_boxDigest 14 = .ok (.iconst 0, 1) := by decide +kernel
theorem dX5_boxDigest_15 : decode cX5_boxDigest 15 = .ok (.istore 7, 2) := by decide +kernel
theorem dX5_boxDigest_17 : decode cX5_boxDigest 17 = .ok (.iload 7, 2) := by decide +kernel
theorem dX5_boxDigest_19 : decode cX5_boxDigest 19 = .ok (.iconst 4, 1) := by decide +kernel
theorem dX5_boxDigest_20 : decode cX5_boxDigest 20 = .ok (.if_icmp .ge 26, 3) := by decide +kernel
theorem dX5_boxDigest_23 : decode cX5_boxDigest 23 = .ok (.ldc2_w 178, 3) := by decide +kernel
theorem dX5_boxDigest_26 : decode cX5_boxDigest 26 = .ok (.lload 5, 2) := by decide +kernel
theorem dX5_boxDigest_28 : decode cX5_boxDigest 28 = .ok (.lmul, 1) := by decide +kernel
theorem dX5_boxDigest_29 : decode cX5_boxDigest 29 = .ok (.aload 4, 2) := by decide +kernel
theorem dX5_boxDigest_31 : decode cX5_boxDigest 31 = .ok (.iload 7, 2) := by decide +kernel
theorem dX5_boxDigest_33 : decode cX5_boxDigest 33 = .ok (.invokevirtual 75, 3) := by decide +kernel
theorem dX5_boxDigest_36 : decode cX5_boxDigest 36 = .ok (.i2l, 1) := by decide +kernel
theorem dX5_boxDigest_37 : decode cX5_boxDigest 37 = .ok (.ladd, 1) := by decide +kernel
theorem dX5_boxDigest_38 : decode cX5_boxDigest 38 = .ok (.lstore 5, 2) := by decide +kernel
theorem dX5_boxDigest_40 : decode cX5_boxDigest 40 = .ok (.iinc 7 1, 3) := by decide +kernel
theorem dX5_boxDigest_43 : decode cX5_boxDigest 43 = .ok (.goto (-26), 3) := by decide +kernel
theorem dX5_boxDigest_46 : decode cX5_boxDigest 46 = .ok (.ldc2_w 178, 3) := by decide +kernel
theorem dX5_boxDigest_49 : decode cX5_boxDigest 49 = .ok (.lload 5, 2) := by decide +kernel
theorem dX5_boxDigest_51 : decode cX5_boxDigest 51 = .ok (.lmul, 1) := by decide +kernel
theorem dX5_boxDigest_52 : decode cX5_boxDigest 52 = .ok (.aload 4, 2) := by decide +kernel
theorem dX5_boxDigest_54 : decode cX5_boxDigest 54 = .ok (.invokevirtual 115, 3) := by decide +kernel
theorem dX5_boxDigest_57 : decode cX5_boxDigest 57 = .ok (.i2l, 1) := by decide +kernel
theorem dX5_boxDigest_58 : decode cX5_boxDigest 58 = .ok (.ladd, 1) := by decide +kernel
theorem dX5_boxDigest_59 : decode cX5_boxDigest 59 = .ok (.lstore 5, 2) := by decide +kernel
theorem dX5_boxDigest_61 : decode cX5_boxDigest 61 = .ok (.iconst 0, 1) := by decide +kernel
theorem dX5_boxDigest_62 : decode cX5_boxDigest 62 = .ok (.istore 7, 2) := by decide +kernel
theorem dX5_boxDigest_64 : decode cX5_boxDigest 64 = .ok (.iload 7, 2) := by decide +kernel
theorem dX5_boxDigest_66 : decode cX5_boxDigest 66 = .ok (.iconst 4, 1) := by decide +kernel
theorem dX5_boxDigest_67 : decode cX5_boxDigest 67 = .ok (.if_icmp .ge 26, 3) := by decide +kernel
theorem dX5_boxDigest_70 : decode cX5_boxDigest 70 = .ok (.ldc2_w 178, 3) := by decide +kernel
theorem dX5_boxDigest_73 : decode cX5_boxDigest 73 = .ok (.lload 5, 2) := by decide +kernel
theorem dX5_boxDigest_75 : decode cX5_boxDigest 75 = .ok (.lmul, 1) := by decide +kernel
theorem dX5_boxDigest_76 : decode cX5_boxDigest 76 = .ok (.aload 4, 2) := by decide +kernel
theorem dX5_boxDigest_78 : decode cX5_boxDigest 78 = .ok (.iload 7, 2) := by decide +kernel
theorem dX5_boxDigest_80 : decode cX5_boxDigest 80 = .ok (.invokestatic 132, 3) := by decide +kernel
theorem dX5_boxDigest_83 : decode cX5_boxDigest 83 = .ok (.i2l, 1) := by decide +kernel
theorem dX5_boxDigest_84 : decode cX5_boxDigest 84 = .ok (.ladd, 1) := by decide +kernel
theorem dX5_boxDigest_85 : decode cX5_boxDigest 85 = .ok (.lstore 5, 2) := by decide +kernel
theorem dX5_boxDigest_87 : decode cX5_boxDigest 87 = .ok (.iinc 7 1, 3) := by decide +kernel
theorem dX5_boxDigest_90 : decode cX5_boxDigest 90 = .ok (.goto (-26), 3) := by decide +kernel
theorem dX5_boxDigest_93 : decode cX5_boxDigest 93 = .ok (.ldc2_w 178, 3) := by decide +kernel
theorem dX5_boxDigest_96 : decode cX5_boxDigest 96 = .ok (.lload 5, 2) := by decide +kernel
theorem dX5_boxDigest_98 : decode cX5_boxDigest 98 = .ok (.lmul, 1) := by decide +kernel
theorem dX5_boxDigest_99 : decode cX5_boxDigest 99 = .ok (.aload_n 0, 1) := by decide +kernel
theorem dX5_boxDigest_100 : decode cX5_boxDigest 100 = .ok (.getfield 26, 3) := by decide +kernel
theorem dX5_boxDigest_103 : decode cX5_boxDigest 103 = .ok (.iload_n 3, 1) := by decide +kernel
theorem dX5_boxDigest_104 : decode cX5_boxDigest 104 = .ok (.invokevirtual 136, 3) := by decide +kernel
theorem dX5_boxDigest_107 : decode cX5_boxDigest 107 = .ok (.i2l, 1) := by decide +kernel
theorem dX5_boxDigest_108 : decode cX5_boxDigest 108 = .ok (.ladd, 1) := by decide +kernel
theorem dX5_boxDigest_109 : decode cX5_boxDigest 109 = .ok (.lreturn, 1) := by decide +kernel
theorem dX5_isBelow_0 : decode cX5_isBelow 0 = .ok (.iload_n 0, 1) := by decide +kernel
theorem dX5_isBelow_1 : decode cX5_isBelow 1 = .ok (.ifCond .lt 12, 3) := by decide +kernel
theorem dX5_isBelow_4 : decode cX5_isBelow 4 = .ok (.iload_n 0, 1) := by decide +kernel
theorem dX5_isBelow_5 : decode cX5_isBelow 5 = .ok (.iload_n 1, 1) := by decide +kernel
theorem dX5_isBelow_6 : decode cX5_isBelow 6 = .ok (.if_icmp .ge 7, 3) := by decide +kernel
theorem dX5_isBelow_9 : decode cX5_isBelow 9 = .ok (.iconst 1, 1) := by decide +kernel
theorem dX5_isBelow_10 : decode cX5_isBelow 10 = .ok (.goto 4, 3) := by decide +kernel
theorem dX5_isBelow_13 : decode cX5_isBelow 13 = .ok (.iconst 0, 1) := by decide +kernel
theorem dX5_isBelow_14 : decode cX5_isBelow 14 = .ok (.ireturn, 1) := by decide +kernel
set_option maxRecDepth 20000 in
theorem ggX5_seenInto_X1_times : GoodIn wsX5_seenInto wsX1_times := goodIn_r _ [8, 9, 10, 7, 11] (by decide +kernel) (by decide +kernel)
set_option maxRecDepth 20000 in
theorem gX5_seenInto_X1_times : GoodIn wsX5_seenInto (va_wsS RX5 213 yX1_times wsX1_times) := goodIn_app (goodIn_of _ (by decide +kernel)) ggX5_seenInto_X1_times
set_option maxRecDepth 20000 in
theorem ggX5_seenInto_X1_minus : GoodIn wsX5_seenInto wsX1_minus := goodIn_r _ [14, 9, 10, 7, 11] (by decide +kernel) (by decide +kernel)
set_option maxRecDepth 20000 in
theorem gX5_seenInto_X1_minus : GoodIn wsX5_seenInto (va_wsS RX5 216 yX1_minus wsX1_minus) := goodIn_app (goodIn_of _ (by decide +kernel)) ggX5_seenInto_X1_minus
set_option maxRecDepth 20000 in
theorem ggX5_seenInto_X1_over : GoodIn wsX5_seenInto wsX1_over := goodIn_r _ [17, 18, 19, 7, 20, 9, 10, 11] (by decide +kernel) (by decide +kernel)
set_option maxRecDepth 20000 in
theorem gX5_seenInto_X1_over : GoodIn wsX5_seenInto (va_wsS RX5 225 yX1_over wsX1_over) := goodIn_app (goodIn_of _ (by decide +kernel)) ggX5_seenInto_X1_over
set_option maxRecDepth 20000 in
theorem ggX5_seenInto_X1_plus : GoodIn wsX5_seenInto wsX1_plus := goodIn_r _ [23, 9, 10, 7, 11] (by decide +kernel) (by decide +kernel)
set_option maxRecDepth 20000 in
theorem gX5_seenInto_X1_plus : GoodIn wsX5_seenInto (va_wsS RX5 228 yX1_plus wsX1_plus) := goodIn_app (goodIn_of _ (by decide +kernel)) ggX5_seenInto_X1_plus
theorem dX5_seenInto_0 : decode cX5_seenInto 0 = .ok (.iload_n 1, 1) := by decide +kernel
theorem dX5_seenInto_1 : decode cX5_seenInto 1 = .ok (.ifCond .ne 10, 3) := by decide +kernel
theorem dX5_seenInto_4 : decode cX5_seenInto 4 = .ok (.aload_n 0, 1) := by decide +kernel
theorem dX5_seenInto_5 : decode cX5_seenInto 5 = .ok (.getfield 207, 3) := by decide +kernel
theorem dX5_seenInto_8 : decode cX5_seenInto 8 = .ok (.goto 7, 3) := by decide +kernel
theorem dX5_seenInto_11 : decode cX5_seenInto 11 = .ok (.aload_n 0, 1) := by decide +kernel
theorem dX5_seenInto_12 : decode cX5_seenInto 12 = .ok (.getfield 210, 3) := by decide +kernel
theorem dX5_seenInto_15 : decode cX5_seenInto 15 = .ok (.istore_n 3, 1) := by decide +kernel
theorem dX5_seenInto_16 : decode cX5_seenInto 16 = .ok (.iload_n 1, 1) := by decide +kernel
theorem dX5_seenInto_17 : decode cX5_seenInto 17 = .ok (.ifCond .ne 10, 3) := by decide +kernel
theorem dX5_seenInto_20 : decode cX5_seenInto 20 = .ok (.aload_n 0, 1) := by decide +kernel
theorem dX5_seenInto_21 : decode cX5_seenInto 21 = .ok (.getfield 210, 3) := by decide +kernel
theorem dX5_seenInto_24 : decode cX5_seenInto 24 = .ok (.goto 7, 3) := by decide +kernel
theorem dX5_seenInto_27 : decode cX5_seenInto 27 = .ok (.aload_n 0, 1) := by decide +kernel
theorem dX5_seenInto_28 : decode cX5_seenInto 28 = .ok (.getfield 207, 3) := by decide +kernel
theorem dX5_seenInto_31 : decode cX5_seenInto 31 = .ok (.istore 4, 2) := by decide +kernel
theorem dX5_seenInto_33 : decode cX5_seenInto 33 = .ok (.sipush 10007, 3) := by decide +kernel
theorem dX5_seenInto_36 : decode cX5_seenInto 36 = .ok (.iload 4, 2) := by decide +kernel
theorem dX5_seenInto_38 : decode cX5_seenInto 38 = .ok (.iload_n 2, 1) := by decide +kernel
theorem dX5_seenInto_39 : decode cX5_seenInto 39 = .ok (.invokestatic 213, 3) := by decide +kernel
theorem dX5_seenInto_42 : decode cX5_seenInto 42 = .ok (.invokestatic 216, 3) := by decide +kernel
theorem dX5_seenInto_45 : decode cX5_seenInto 45 = .ok (.istore 5, 2) := by decide +kernel
theorem dX5_seenInto_47 : decode cX5_seenInto 47 = .ok (.iload 5, 2) := by decide +kernel
theorem dX5_seenInto_49 : decode cX5_seenInto 49 = .ok (.ifCond .ne 6, 3) := by decide +kernel
theorem dX5_seenInto_52 : decode cX5_seenInto 52 = .ok (.bipush (-3), 2) := by decide +kernel
theorem dX5_seenInto_54 : decode cX5_seenInto 54 = .ok (.ireturn, 1) := by decide +kernel
theorem dX5_seenInto_55 : decode cX5_seenInto 55 = .ok (.aload_n 0, 1) := by decide +kernel
theorem dX5_seenInto_56 : decode cX5_seenInto 56 = .ok (.getfield 219, 3) := by decide +kernel
theorem dX5_seenInto_59 : decode cX5_seenInto 59 = .ok (.aload_n 0, 1) := by decide +kernel
theorem dX5_seenInto_60 : decode cX5_seenInto 60 = .ok (.getfield 222, 3) := by decide +kernel
theorem dX5_seenInto_63 : decode cX5_seenInto 63 = .ok (.invokestatic 213, 3) := by decide +kernel
theorem dX5_seenInto_66 : decode cX5_seenInto 66 = .ok (.iload_n 2, 1) := by decide +kernel
theorem dX5_seenInto_67 : decode cX5_seenInto 67 = .ok (.invokestatic 213, 3) := by decide +kernel
theorem dX5_seenInto_70 : decode cX5_seenInto 70 = .ok (.istore 6, 2) := by decide +kernel
theorem dX5_seenInto_72 : decode cX5_seenInto 72 = .ok (.iload_n 3, 1) := by decide +kernel
theorem dX5_seenInto_73 : decode cX5_seenInto 73 = .ok (.iload 6, 2) := by decide +kernel
theorem dX5_seenInto_75 : decode cX5_seenInto 75 = .ok (.iload 5, 2) := by decide +kernel
theorem dX5_seenInto_77 : decode cX5_seenInto 77 = .ok (.invokestatic 225, 3) := by decide +kernel
theorem dX5_seenInto_80 : decode cX5_seenInto 80 = .ok (.invokestatic 228, 3) := by decide +kernel
theorem dX5_seenInto_83 : decode cX5_seenInto 83 = .ok (.ireturn, 1) := by decide +kernel
set_option maxRecDepth 20000 in
theorem ggX5_passed_X5_losesNothing : GoodIn wsX5_passed wsX5_losesNothing := goodIn_r _ [8, 3, 1, 2, 4, 9, 10, 11, 12, 13, 14, 15, 16, 17, 18, 19, 20, 21, 22, 23, 24, 25, 26, 27, 28] (by decide +kernel) (by decide +kernel)
set_option maxRecDepth 20000 in
theorem gX5_passed_X5_losesNothing : GoodIn wsX5_passed (va_wsS RX5 231 yX5_losesNothing wsX5_losesNothing) := goodIn_app (goodIn_of _ (by decide +kernel)) ggX5_passed_X5_losesNothing
theorem dX5_passed_0 : decode cX5_passed 0 = .ok (.iload_n 1, 1) := by decide +kernel
theorem dX5_passed_1 : decode cX5_passed 1 = .ok (.tableswitch 81 0 2 #[27, 44, 61], 27) := by decide +kernel
theorem dX5_passed_28 : decode cX5_passed 28 = .ok (.aload_n 0, 1) := by decide +kernel
theorem dX5_passed_29 : decode cX5_passed 29 = .ok (.getfield 219, 3) := by decide +kernel
theorem dX5_passed_32 : decode cX5_passed 32 = .ok (.aload_n 0, 1) := by decide +kernel
theorem dX5_passed_33 : decode cX5_passed 33 = .ok (.getfield 222, 3) := by decide +kernel
theorem dX5_passed_36 : decode cX5_passed 36 = .ok (.if_icmp .ne 7, 3) := by decide +kernel
theorem dX5_passed_39 : decode cX5_passed 39 = .ok (.iconst 1, 1) := by decide +kernel
theorem dX5_passed_40 : decode cX5_passed 40 = .ok (.goto 4, 3) := by decide +kernel
theorem dX5_passed_43 : decode cX5_passed 43 = .ok (.iconst 0, 1) := by decide +kernel
theorem dX5_passed_44 : decode cX5_passed 44 = .ok (.ireturn, 1) := by decide +kernel
theorem dX5_passed_45 : decode cX5_passed 45 = .ok (.aload_n 0, 1) := by decide +kernel
theorem dX5_passed_46 : decode cX5_passed 46 = .ok (.getfield 207, 3) := by decide +kernel
theorem dX5_passed_49 : decode cX5_passed 49 = .ok (.aload_n 0, 1) := by decide +kernel
theorem dX5_passed_50 : decode cX5_passed 50 = .ok (.getfield 210, 3) := by decide +kernel
theorem dX5_passed_53 : decode cX5_passed 53 = .ok (.if_icmp .ne 7, 3) := by decide +kernel
theorem dX5_passed_56 : decode cX5_passed 56 = .ok (.iconst 1, 1) := by decide +kernel
theorem dX5_passed_57 : decode cX5_passed 57 = .ok (.goto 4, 3) := by decide +kernel
theorem dX5_passed_60 : decode cX5_passed 60 = .ok (.iconst 0, 1) := by decide +kernel
theorem dX5_passed_61 : decode cX5_passed 61 = .ok (.ireturn, 1) := by decide +kernel
theorem dX5_passed_62 : decode cX5_passed 62 = .ok (.aload_n 0, 1) := by decide +kernel
theorem dX5_passed_63 : decode cX5_passed 63 = .ok (.getfield 207, 3) := by decide +kernel
theorem dX5_passed_66 : decode cX5_passed 66 = .ok (.ifCond .ne 14, 3) := by decide +kernel
theorem dX5_passed_69 : decode cX5_passed 69 = .ok (.aload_n 0, 1) := by decide +kernel
theorem dX5_passed_70 : decode cX5_passed 70 = .ok (.getfield 210, 3) := by decide +kernel
theorem dX5_passed_73 : decode cX5_passed 73 = .ok (.ifCond .ne 7, 3) := by decide +kernel
theorem dX5_passed_76 : decode cX5_passed 76 = .ok (.iconst 1, 1) := by decide +kernel
theorem dX5_passed_77 : decode cX5_passed 77 = .ok (.goto 4, 3) := by decide +kernel
theorem dX5_passed_80 : decode cX5_passed 80 = .ok (.iconst 0, 1) := by decide +kernel
theorem dX5_passed_81 : decode cX5_passed 81 = .ok (.ireturn, 1) := by decide +kernel
theorem dX5_passed_82 : decode cX5_passed 82 = .ok (.aload_n 0, 1) := by decide +kernel
theorem dX5_passed_83 : decode cX5_passed 83 = .ok (.invokestatic 231, 3) := by decide +kernel
theorem dX5_passed_86 : decode cX5_passed 86 = .ok (.ifCond .eq 7, 3) := by decide +kernel
theorem dX5_passed_89 : decode cX5_passed 89 = .ok (.iconst 1, 1) := by decide +kernel
theorem dX5_passed_90 : decode cX5_passed 90 = .ok (.goto 4, 3) := by decide +kernel
theorem dX5_passed_93 : decode cX5_passed 93 = .ok (.iconst 0, 1) := by decide +kernel
theorem dX5_passed_94 : decode cX5_passed 94 = .ok (.ireturn, 1) := by decide +kernel
set_option maxRecDepth 20000 in
theorem ggX5_losesNothing_X1_other : GoodIn wsX5_losesNothing wsX1_other := goodIn_r _ [8, 9, 10, 7, 11] (by decide +kernel) (by decide +kernel)
set_option maxRecDepth 20000 in
theorem gX5_losesNothing_X1_other : GoodIn wsX5_losesNothing (va_wsS RX5 235 yX1_other wsX1_other) := goodIn_app (goodIn_of _ (by decide +kernel)) ggX5_losesNothing_X1_other
set_option maxRecDepth 20000 in
theorem ggX5_losesNothing_X1_pairs : GoodIn wsX5_losesNothing wsX1_pairs := goodIn_r _ [14, 15, 16, 7, 17, 9, 10, 11, 18, 19, 20] (by decide +kernel) (by decide +kernel)
set_option maxRecDepth 20000 in
theorem gX5_losesNothing_X1_pairs : GoodIn wsX5_losesNothing (va_wsS RX5 238 yX1_pairs wsX1_pairs) := goodIn_app (goodIn_of _ (by decide +kernel)) ggX5_losesNothing_X1_pairs
theorem dX5_losesNothing_0 : decode cX5_losesNothing 0 = .ok (.aload_n 0, 1) := by decide +kernel
theorem dX5_losesNothing_1 : decode cX5_losesNothing 1 = .ok (.getfield 207, 3) := by decide +kernel
theorem dX5_losesNothing_4 : decode cX5_losesNothing 4 = .ok (.invokestatic 235, 3) := by decide +kernel
theorem dX5_losesNothing_7 : decode cX5_losesNothing 7 = .ok (.istore_n 1, 1) := by decide +kernel
theorem dX5_losesNothing_8 : decode cX5_losesNothing 8 = .ok (.aload_n 0, 1) := by decide +kernel
theorem dX5_losesNothing_9 : decode cX5_losesNothing 9 = .ok (.getfield 219, 3) := by decide +kernel
theorem dX5_losesNothing_12 : decode cX5_losesNothing 12 = .ok (.invokestatic 235, 3) := by decide +kernel
theorem dX5_losesNothing_15 : decode cX5_losesNothing 15 = .ok (.istore_n 2, 1) := by decide +kernel
theorem dX5_losesNothing_16 : decode cX5_losesNothing 16 = .ok (.aload_n 0, 1) := by decide +kernel
theorem dX5_losesNothing_17 : decode cX5_losesNothing 17 = .ok (.getfield 222, 3) := by decide +kernel
theorem dX5_losesNothing_20 : decode cX5_losesNothing 20 = .ok (.invokestatic 235, 3) := by decide +kernel
theorem dX5_losesNothing_23 : decode cX5_losesNothing 23 = .ok (.istore_n 3, 1) := by decide +kernel
theorem dX5_losesNothing_24 : decode cX5_losesNothing 24 = .ok (.aload_n 0, 1) := by decide +kernel
theorem dX5_losesNothing_25 : decode cX5_losesNothing 25 = .ok (.getfield 210, 3) := by decide +kernel
theorem dX5_losesNothing_28 : decode cX5_losesNothing 28 = .ok (.invokestatic 235, 3) := by decide +kernel
theorem dX5_losesNothing_31 : decode cX5_losesNothing 31 = .ok (.istore 4, 2) := by decide +kernel
theorem dX5_losesNothing_33 : decode cX5_losesNothing 33 = .ok (.iload_n 1, 1) := by decide +kernel
theorem dX5_losesNothing_34 : decode cX5_losesNothing 34 = .ok (.aload_n 0, 1) := by decide +kernel
theorem dX5_losesNothing_35 : decode cX5_losesNothing 35 = .ok (.getfield 207, 3) := by decide +kernel
theorem dX5_losesNothing_38 : decode cX5_losesNothing 38 = .ok (.iload_n 3, 1) := by decide +kernel
theorem dX5_losesNothing_39 : decode cX5_losesNothing 39 = .ok (.aload_n 0, 1) := by decide +kernel
theorem dX5_losesNothing_40 : decode cX5_losesNothing 40 = .ok (.getfield 222, 3) := by decide +kernel
theorem dX5_losesNothing_43 : decode cX5_losesNothing 43 = .ok (.invokestatic 238, 3) := by decide +kernel
theorem dX5_losesNothing_46 : decode cX5_losesNothing 46 = .ok (.sipush 10007, 3) := by decide +kernel
theorem dX5_losesNothing_49 : decode cX5_losesNothing 49 = .ok (.if_icmp .ne 43, 3) := by decide +kernel
theorem dX5_losesNothing_52 : decode cX5_losesNothing 52 = .ok (.iload_n 2, 1) := by decide +kernel
theorem dX5_losesNothing_53 : decode cX5_losesNothing 53 = .ok (.aload_n 0, 1) := by decide +kernel
theorem dX5_losesNothing_54 : decode cX5_losesNothing 54 = .ok (.getfield 219, 3) := by decide +kernel
theorem dX5_losesNothing_57 : decode cX5_losesNothing 57 = .ok (.iload 4, 2) := by decide +kernel
theorem dX5_losesNothing_59 : decode cX5_losesNothing 59 = .ok (.aload_n 0, 1) := by decide +kernel
theorem dX5_losesNothing_60 : decode cX5_losesNothing 60 = .ok (.getfield 210, 3) := by decide +kernel
theorem dX5_losesNothing_63 : decode cX5_losesNothing 63 = .ok (.invokestatic 238, 3) := by decide +kernel
theorem dX5_losesNothing_66 : decode cX5_losesNothing 66 = .ok (.sipush 10007, 3) := by decide +kernel
theorem dX5_losesNothing_69 : decode cX5_losesNothing 69 = .ok (.if_icmp .ne 23, 3) := by decide +kernel
theorem dX5_losesNothing_72 : decode cX5_losesNothing 72 = .ok (.iload_n 1, 1) := by decide +kernel
theorem dX5_losesNothing_73 : decode cX5_losesNothing 73 = .ok (.aload_n 0, 1) := by decide +kernel
theorem dX5_losesNothing_74 : decode cX5_losesNothing 74 = .ok (.getfield 219, 3) := by decide +kernel
theorem dX5_losesNothing_77 : decode cX5_losesNothing 77 = .ok (.iload_n 3, 1) := by decide +kernel
theorem dX5_losesNothing_78 : decode cX5_losesNothing 78 = .ok (.aload_n 0, 1) := by decide +kernel
theorem dX5_losesNothing_79 : decode cX5_losesNothing 79 = .ok (.getfield 210, 3) := by decide +kernel
theorem dX5_losesNothing_82 : decode cX5_losesNothing 82 = .ok (.invokestatic 238, 3) := by decide +kernel
theorem dX5_losesNothing_85 : decode cX5_losesNothing 85 = .ok (.ifCond .ne 7, 3) := by decide +kernel
theorem dX5_losesNothing_88 : decode cX5_losesNothing 88 = .ok (.iconst 1, 1) := by decide +kernel
theorem dX5_losesNothing_89 : decode cX5_losesNothing 89 = .ok (.goto 4, 3) := by decide +kernel
theorem dX5_losesNothing_92 : decode cX5_losesNothing 92 = .ok (.iconst 0, 1) := by decide +kernel
theorem dX5_losesNothing_93 : decode cX5_losesNothing 93 = .ok (.ireturn, 1) := by decide +kernel
theorem dX6_init_0 : decode cX6_init 0 = .ok (.aload_n 0, 1) := by decide +kernel
theorem dX6_init_1 : decode cX6_init 1 = .ok (.invokespecial 1, 3) := by decide +kernel
theorem dX6_init_4 : decode cX6_init 4 = .ok (.aload_n 0, 1) := by decide +kernel
theorem dX6_init_5 : decode cX6_init 5 = .ok (.bipush 58, 2) := by decide +kernel
theorem dX6_init_7 : decode cX6_init 7 = .ok (.newarray .int, 2) := by decide +kernel
theorem dX6_init_9 : decode cX6_init 9 = .ok (.putfield 7, 3) := by decide +kernel
theorem dX6_init_12 : decode cX6_init 12 = .ok (.aload_n 0, 1) := by decide +kernel
theorem dX6_init_13 : decode cX6_init 13 = .ok (.bipush 58, 2) := by decide +kernel
theorem dX6_init_15 : decode cX6_init 15 = .ok (.newarray .int, 2) := by decide +kernel
theorem dX6_init_17 : decode cX6_init 17 = .ok (.putfield 13, 3) := by decide +kernel
theorem dX6_init_20 : decode cX6_init 20 = .ok (.aload_n 0, 1) := by decide +kernel
theorem dX6_init_21 : decode cX6_init 21 = .ok (.sipush 290, 3) := by decide +kernel
theorem dX6_init_24 : decode cX6_init 24 = .ok (.newarray .int, 2) := by decide +kernel
theorem dX6_init_26 : decode cX6_init 26 = .ok (.putfield 16, 3) := by decide +kernel
theorem dX6_init_29 : decode cX6_init 29 = .ok (.aload_n 0, 1) := by decide +kernel
theorem dX6_init_30 : decode cX6_init 30 = .ok (.iconst 3, 1) := by decide +kernel
theorem dX6_init_31 : decode cX6_init 31 = .ok (.newarray .int, 2) := by decide +kernel
theorem dX6_init_33 : decode cX6_init 33 = .ok (.putfield 19, 3) := by decide +kernel
theorem dX6_init_36 : decode cX6_init 36 = .ok (.aload_n 0, 1) := by decide +kernel
theorem dX6_init_37 : decode cX6_init 37 = .ok (.bipush 120, 2) := by decide +kernel
theorem dX6_init_39 : decode cX6_init 39 = .ok (.newarray .int, 2) := by decide +kernel
theorem dX6_init_41 : decode cX6_init 41 = .ok (.putfield 22, 3) := by decide +kernel
theorem dX6_init_44 : decode cX6_init 44 = .ok (.aload_n 0, 1) := by decide +kernel
theorem dX6_init_45 : decode cX6_init 45 = .ok (.iconst 4, 1) := by decide +kernel
theorem dX6_init_46 : decode cX6_init 46 = .ok (.newarray .int, 2) := by decide +kernel
theorem dX6_init_48 : decode cX6_init 48 = .ok (.putfield 25, 3) := by decide +kernel
theorem dX6_init_51 : decode cX6_init 51 = .ok (.aload_n 0, 1) := by decide +kernel
theorem dX6_init_52 : decode cX6_init 52 = .ok (.bipush 12, 2) := by decide +kernel
theorem dX6_init_54 : decode cX6_init 54 = .ok (.newarray .int, 2) := by decide +kernel
theorem dX6_init_56 : decode cX6_init 56 = .ok (.putfield 28, 3) := by decide +kernel
theorem dX6_init_59 : decode cX6_init 59 = .ok (.aload_n 0, 1) := by decide +kernel
theorem dX6_init_60 : decode cX6_init 60 = .ok (.iconst 4, 1) := by decide +kernel
theorem dX6_init_61 : decode cX6_init 61 = .ok (.newarray .int, 2) := by decide +kernel
theorem dX6_init_63 : decode cX6_init 63 = .ok (.putfield 31, 3) := by decide +kernel
theorem dX6_init_66 : decode cX6_init 66 = .ok (.aload_n 0, 1) := by decide +kernel
theorem dX6_init_67 : decode cX6_init 67 = .ok (.iconst 4, 1) := by decide +kernel
theorem dX6_init_68 : decode cX6_init 68 = .ok (.newarray .int, 2) := by decide +kernel
theorem dX6_init_70 : decode cX6_init 70 = .ok (.putfield 34, 3) := by decide +kernel
theorem dX6_init_73 : decode cX6_init 73 = .ok (.aload_n 0, 1) := by decide +kernel
theorem dX6_init_74 : decode cX6_init 74 = .ok (.iconst 4, 1) := by decide +kernel
theorem dX6_init_75 : decode cX6_init 75 = .ok (.newarray .int, 2) := by decide +kernel
theorem dX6_init_77 : decode cX6_init 77 = .ok (.putfield 37, 3) := by decide +kernel
theorem dX6_init_80 : decode cX6_init 80 = .ok (.aload_n 0, 1) := by decide +kernel
theorem dX6_init_81 : decode cX6_init 81 = .ok (.iconst 4, 1) := by decide +kernel
theorem dX6_init_82 : decode cX6_init 82 = .ok (.newarray .int, 2) := by decide +kernel
theorem dX6_init_84 : decode cX6_init 84 = .ok (.putfield 40, 3) := by decide +kernel
theorem dX6_init_87 : decode cX6_init 87 = .ok (.aload_n 0, 1) := by decide +kernel
theorem dX6_init_88 : decode cX6_init 88 = .ok (.bipush 60, 2) := by decide +kernel
theorem dX6_init_90 : decode cX6_init 90 = .ok (.newarray .int, 2) := by decide +kernel
theorem dX6_init_92 : decode cX6_init 92 = .ok (.putfield 43, 3) := by decide +kernel
theorem dX6_init_95 : decode cX6_init 95 = .ok (.aload_n 0, 1) := by decide +kernel
theorem dX6_init_96 : decode cX6_init 96 = .ok (.bipush 61, 2) := by decide +kernel
theorem dX6_init_98 : decode cX6_init 98 = .ok (.newarray .int, 2) := by decide +kernel
theorem dX6_init_100 : decode cX6_init 100 = .ok (.putfield 46, 3) := by decide +kernel
theorem dX6_init_103 : decode cX6_init 103 = .ok (.aload_n 0, 1) := by decide +kernel
theorem dX6_init_104 : decode cX6_init 104 = .ok (.bipush 120, 2) := by decide +kernel
theorem dX6_init_106 : decode cX6_init 106 = .ok (.newarray .int, 2) := by decide +kernel
theorem dX6_init_108 : decode cX6_init 108 = .ok (.putfield 49, 3) := by decide +kernel
theorem dX6_init_111 : decode cX6_init 111 = .ok (.iconst 2, 1) := by decide +kernel
theorem dX6_init_112 : decode cX6_init 112 = .ok (.istore_n 1, 1) := by decide +kernel
theorem dX6_init_113 : decode cX6_init 113 = .ok (.iload_n 1, 1) := by decide +kernel
theorem dX6_init_114 : decode cX6_init 114 = .ok (.bipush 12, 2) := by decide +kernel
theorem dX6_init_116 : decode cX6_init 116 = .ok (.if_icmp .ge 21, 3) := by decide +kernel
theorem dX6_init_119 : decode cX6_init 119 = .ok (.aload_n 0, 1) := by decide +kernel
theorem dX6_init_120 : decode cX6_init 120 = .ok (.getfield 7, 3) := by decide +kernel
theorem dX6_init_123 : decode cX6_init 123 = .ok (.bipush 33, 2) := by decide +kernel
theorem dX6_init_125 : decode cX6_init 125 = .ok (.iload_n 1, 1) := by decide +kernel
theorem dX6_init_126 : decode cX6_init 126 = .ok (.iadd, 1) := by decide +kernel
theorem dX6_init_127 : decode cX6_init 127 = .ok (.sipush 10007, 3) := by decide +kernel
theorem dX6_init_130 : decode cX6_init 130 = .ok (.iastore, 1) := by decide +kernel
theorem dX6_init_131 : decode cX6_init 131 = .ok (.iinc 1 3, 3) := by decide +kernel
theorem dX6_init_134 : decode cX6_init 134 = .ok (.goto (-21), 3) := by decide +kernel
theorem dX6_init_137 : decode cX6_init 137 = .ok (.return_, 1) := by decide +kernel
theorem dX6_in_0 : decode cX6_in 0 = .ok (.iload_n 0, 1) := by decide +kernel
theorem dX6_in_1 : decode cX6_in 1 = .ok (.iload_n 1, 1) := by decide +kernel
theorem dX6_in_2 : decode cX6_in 2 = .ok (.if_icmp .lt 12, 3) := by decide +kernel
theorem dX6_in_5 : decode cX6_in 5 = .ok (.iload_n 0, 1) := by decide +kernel
theorem dX6_in_6 : decode cX6_in 6 = .ok (.iload_n 2, 1) := by decide +kernel
theorem dX6_in_7 : decode cX6_in 7 = .ok (.if_icmp .gt 7, 3) := by decide +kernel
theorem dX6_in_10 : decode cX6_in 10 = .ok (.iconst 1, 1) := by decide +kernel
theorem dX6_in_11 : decode cX6_in 11 = .ok (.goto 4, 3) := by decide +kernel
theorem dX6_in_14 : decode cX6_in 14 = .ok (.iconst 0, 1) := by decide +kernel
theorem dX6_in_15 : decode cX6_in 15 = .ok (.ireturn, 1) := by decide +kernel
theorem dX6_bad_0 : decode cX6_bad 0 = .ok (.aload_n 0, 1) := by decide +kernel
theorem dX6_bad_1 : decode cX6_bad 1 = .ok (.getfield 19, 3) := by decide +kernel
theorem dX6_bad_4 : decode cX6_bad 4 = .ok (.iconst 0, 1) := by decide +kernel
theorem dX6_bad_5 : decode cX6_bad 5 = .ok (.dup2, 1) := by decide +kernel
theorem dX6_bad_6 : decode cX6_bad 6 = .ok (.iaload, 1) := by decide +kernel
theorem dX6_bad_7 : decode cX6_bad 7 = .ok (.iconst 1, 1) := by decide +kernel
theorem dX6_bad_8 : decode cX6_bad 8 = .ok (.iadd, 1) := by decide +kernel
theorem dX6_bad_9 : decode cX6_bad 9 = .ok (.iastore, 1) := by decide +kernel
theorem dX6_bad_10 : decode cX6_bad 10 = .ok (.bipush (-2), 2) := by decide +kernel
theorem dX6_bad_12 : decode cX6_bad 12 = .ok (.ireturn, 1) := by decide +kernel
theorem dX6_no_0 : decode cX6_no 0 = .ok (.aload_n 0, 1) := by decide +kernel
theorem dX6_no_1 : decode cX6_no 1 = .ok (.getfield 19, 3) := by decide +kernel
theorem dX6_no_4 : decode cX6_no 4 = .ok (.iconst 1, 1) := by decide +kernel
theorem dX6_no_5 : decode cX6_no 5 = .ok (.dup2, 1) := by decide +kernel
theorem dX6_no_6 : decode cX6_no 6 = .ok (.iaload, 1) := by decide +kernel
theorem dX6_no_7 : decode cX6_no 7 = .ok (.iconst 1, 1) := by decide +kernel
theorem dX6_no_8 : decode cX6_no 8 = .ok (.iadd, 1) := by decide +kernel
theorem dX6_no_9 : decode cX6_no 9 = .ok (.iastore, 1) := by decide +kernel
theorem dX6_no_10 : decode cX6_no 10 = .ok (.bipush (-3), 2) := by decide +kernel
theorem dX6_no_12 : decode cX6_no 12 = .ok (.ireturn, 1) := by decide +kernel
theorem dX6_full_0 : decode cX6_full 0 = .ok (.aload_n 0, 1) := by decide +kernel
theorem dX6_full_1 : decode cX6_full 1 = .ok (.getfield 19, 3) := by decide +kernel
theorem dX6_full_4 : decode cX6_full 4 = .ok (.iconst 2, 1) := by decide +kernel
theorem dX6_full_5 : decode cX6_full 5 = .ok (.dup2, 1) := by decide +kernel
theorem dX6_full_6 : decode cX6_full 6 = .ok (.iaload, 1) := by decide +kernel
theorem dX6_full_7 : decode cX6_full 7 = .ok (.iconst 1, 1) := by decide +kernel
theorem dX6_full_8 : decode cX6_full 8 = .ok (.iadd, 1) := by decide +kernel
theorem dX6_full_9 : decode cX6_full 9 = .ok (.iastore, 1) := by decide +kernel
theorem dX6_full_10 : decode cX6_full 10 = .ok (.bipush (-4), 2) := by decide +kernel
theorem dX6_full_12 : decode cX6_full 12 = .ok (.ireturn, 1) := by decide +kernel
theorem dX6_remembers_0 : decode cX6_remembers 0 = .ok (.aload_n 0, 1) := by decide +kernel
theorem dX6_remembers_1 : decode cX6_remembers 1 = .ok (.getfield 52, 3) := by decide +kernel
theorem dX6_remembers_4 : decode cX6_remembers 4 = .ok (.iconst 5, 1) := by decide +kernel
theorem dX6_remembers_5 : decode cX6_remembers 5 = .ok (.if_icmp .ne 43, 3) := by decide +kernel
theorem dX6_remembers_8 : decode cX6_remembers 8 = .ok (.iconst 0, 1) := by decide +kernel
theorem dX6_remembers_9 : decode cX6_remembers 9 = .ok (.istore_n 1, 1) := by decide +kernel
theorem dX6_remembers_10 : decode cX6_remembers 10 = .ok (.iload_n 1, 1) := by decide +kernel
theorem dX6_remembers_11 : decode cX6_remembers 11 = .ok (.sipush 232, 3) := by decide +kernel
theorem dX6_remembers_14 : decode cX6_remembers 14 = .ok (.if_icmp .ge 24, 3) := by decide +kernel
theorem dX6_remembers_17 : decode cX6_remembers 17 = .ok (.aload_n 0, 1) := by decide +kernel
theorem dX6_remembers_18 : decode cX6_remembers 18 = .ok (.getfield 16, 3) := by decide +kernel
theorem dX6_remembers_21 : decode cX6_remembers 21 = .ok (.iload_n 1, 1) := by decide +kernel
theorem dX6_remembers_22 : decode cX6_remembers 22 = .ok (.aload_n 0, 1) := by decide +kernel
theorem dX6_remembers_23 : decode cX6_remembers 23 = .ok (.getfield 16, 3) := by decide +kernel
theorem dX6_remembers_26 : decode cX6_remembers 26 = .ok (.iload_n 1, 1) := by decide +kernel
theorem dX6_remembers_27 : decode cX6_remembers 27 = .ok (.bipush 58, 2) := by decide +kernel
theorem dX6_remembers_29 : decode cX6_remembers 29 = .ok (.iadd, 1) := by decide +kernel
theorem dX6_remembers_30 : decode cX6_remembers 30 = .ok (.iaload, 1) := by decide +kernel
theorem dX6_remembers_31 : decode cX6_remembers 31 = .ok (.iastore, 1) := by decide +kernel
theorem dX6_remembers_32 : decode cX6_remembers 32 = .ok (.iinc 1 1, 3) := by decide +kernel
theorem dX6_remembers_35 : decode cX6_remembers 35 = .ok (.goto (-25), 3) := by decide +kernel
theorem dX6_remembers_38 : decode cX6_remembers 38 = .ok (.aload_n 0, 1) := by decide +kernel
theorem dX6_remembers_39 : decode cX6_remembers 39 = .ok (.dup, 1) := by decide +kernel
theorem dX6_remembers_40 : decode cX6_remembers 40 = .ok (.getfield 52, 3) := by decide +kernel
theorem dX6_remembers_43 : decode cX6_remembers 43 = .ok (.iconst 1, 1) := by decide +kernel
theorem dX6_remembers_44 : decode cX6_remembers 44 = .ok (.isub, 1) := by decide +kernel
theorem dX6_remembers_45 : decode cX6_remembers 45 = .ok (.putfield 52, 3) := by decide +kernel
theorem dX6_remembers_48 : decode cX6_remembers 48 = .ok (.iconst 0, 1) := by decide +kernel
theorem dX6_remembers_49 : decode cX6_remembers 49 = .ok (.istore_n 1, 1) := by decide +kernel
theorem dX6_remembers_50 : decode cX6_remembers 50 = .ok (.iload_n 1, 1) := by decide +kernel
theorem dX6_remembers_51 : decode cX6_remembers 51 = .ok (.bipush 58, 2) := by decide +kernel
theorem dX6_remembers_53 : decode cX6_remembers 53 = .ok (.if_icmp .ge 29, 3) := by decide +kernel
theorem dX6_remembers_56 : decode cX6_remembers 56 = .ok (.aload_n 0, 1) := by decide +kernel
theorem dX6_remembers_57 : decode cX6_remembers 57 = .ok (.getfield 16, 3) := by decide +kernel
theorem dX6_remembers_60 : decode cX6_remembers 60 = .ok (.bipush 58, 2) := by decide +kernel
theorem dX6_remembers_62 : decode cX6_remembers 62 = .ok (.aload_n 0, 1) := by decide +kernel
theorem dX6_remembers_63 : decode cX6_remembers 63 = .ok (.getfield 52, 3) := by decide +kernel
theorem dX6_remembers_66 : decode cX6_remembers 66 = .ok (.imul, 1) := by decide +kernel
theorem dX6_remembers_67 : decode cX6_remembers 67 = .ok (.iload_n 1, 1) := by decide +kernel
theorem dX6_remembers_68 : decode cX6_remembers 68 = .ok (.iadd, 1) := by decide +kernel
theorem dX6_remembers_69 : decode cX6_remembers 69 = .ok (.aload_n 0, 1) := by decide +kernel
theorem dX6_remembers_70 : decode cX6_remembers 70 = .ok (.getfield 7, 3) := by decide +kernel
theorem dX6_remembers_73 : decode cX6_remembers 73 = .ok (.iload_n 1, 1) := by decide +kernel
theorem dX6_remembers_74 : decode cX6_remembers 74 = .ok (.iaload, 1) := by decide +kernel
theorem dX6_remembers_75 : decode cX6_remembers 75 = .ok (.iastore, 1) := by decide +kernel
theorem dX6_remembers_76 : decode cX6_remembers 76 = .ok (.iinc 1 1, 3) := by decide +kernel
theorem dX6_remembers_79 : decode cX6_remembers 79 = .ok (.goto (-29), 3) := by decide +kernel
theorem dX6_remembers_82 : decode cX6_remembers 82 = .ok (.aload_n 0, 1) := by decide +kernel
theorem dX6_remembers_83 : decode cX6_remembers 83 = .ok (.dup, 1) := by decide +kernel
theorem dX6_remembers_84 : decode cX6_remembers 84 = .ok (.getfield 52, 3) := by decide +kernel
theorem dX6_remembers_87 : decode cX6_remembers 87 = .ok (.iconst 1, 1) := by decide +kernel
theorem dX6_remembers_88 : decode cX6_remembers 88 = .ok (.iadd, 1) := by decide +kernel
theorem dX6_remembers_89 : decode cX6_remembers 89 = .ok (.putfield 52, 3) := by decide +kernel
theorem dX6_remembers_92 : decode cX6_remembers 92 = .ok (.return_, 1) := by decide +kernel
set_option maxRecDepth 20000 in
theorem ggX6_back_X6_no : GoodIn wsX6_back wsX6_no := goodIn_r _ [8, 9, 10, 11, 12, 13, 14, 15, 16, 17, 18, 19, 20, 21, 22, 23, 24, 25, 26, 27, 28, 29, 30] (by decide +kernel) (by decide +kernel)
set_option maxRecDepth 20000 in
theorem gX6_back_X6_no : GoodIn wsX6_back (wsV RX6 56 RX6 yX6_no wsX6_no) := goodIn_app (goodIn_of _ (by decide +kernel)) ggX6_back_X6_no
theorem dX6_back_0 : decode cX6_back 0 = .ok (.aload_n 0, 1) := by decide +kernel
theorem dX6_back_1 : decode cX6_back 1 = .ok (.getfield 52, 3) := by decide +kernel
theorem dX6_back_4 : decode cX6_back 4 = .ok (.ifCond .ne 8, 3) := by decide +kernel
theorem dX6_back_7 : decode cX6_back 7 = .ok (.aload_n 0, 1) := by decide +kernel
theorem dX6_back_8 : decode cX6_back 8 = .ok (.invokevirtual 56, 3) := by decide +kernel
theorem dX6_back_11 : decode cX6_back 11 = .ok (.ireturn, 1) := by decide +kernel
theorem dX6_back_12 : decode cX6_back 12 = .ok (.aload_n 0, 1) := by decide +kernel
theorem dX6_back_13 : decode cX6_back 13 = .ok (.dup, 1) := by decide +kernel
theorem dX6_back_14 : decode cX6_back 14 = .ok (.getfield 52, 3) := by decide +kernel
theorem dX6_back_17 : decode cX6_back 17 = .ok (.iconst 1, 1) := by decide +kernel
theorem dX6_back_18 : decode cX6_back 18 = .ok (.isub, 1) := by decide +kernel
theorem dX6_back_19 : decode cX6_back 19 = .ok (.putfield 52, 3) := by decide +kernel
theorem dX6_back_22 : decode cX6_back 22 = .ok (.iconst 0, 1) := by decide +kernel
theorem dX6_back_23 : decode cX6_back 23 = .ok (.istore_n 1, 1) := by decide +kernel
theorem dX6_back_24 : decode cX6_back 24 = .ok (.iload_n 1, 1) := by decide +kernel
theorem dX6_back_25 : decode cX6_back 25 = .ok (.bipush 58, 2) := by decide +kernel
theorem dX6_back_27 : decode cX6_back 27 = .ok (.if_icmp .ge 29, 3) := by decide +kernel
theorem dX6_back_30 : decode cX6_back 30 = .ok (.aload_n 0, 1) := by decide +kernel
theorem dX6_back_31 : decode cX6_back 31 = .ok (.getfield 7, 3) := by decide +kernel
theorem dX6_back_34 : decode cX6_back 34 = .ok (.iload_n 1, 1) := by decide +kernel
theorem dX6_back_35 : decode cX6_back 35 = .ok (.aload_n 0, 1) := by decide +kernel
theorem dX6_back_36 : decode cX6_back 36 = .ok (.getfield 16, 3) := by decide +kernel
theorem dX6_back_39 : decode cX6_back 39 = .ok (.bipush 58, 2) := by decide +kernel
theorem dX6_back_41 : decode cX6_back 41 = .ok (.aload_n 0, 1) := by decide +kernel
theorem dX6_back_42 : decode cX6_back 42 = .ok (.getfield 52, 3) := by decide +kernel
theorem dX6_back_45 : decode cX6_back 45 = .ok (.imul, 1) := by decide +kernel
theorem dX6_back_46 : decode cX6_back 46 = .ok (.iload_n 1, 1) := by decide +kernel
theorem dX6_back_47 : decode cX6_back 47 = .ok (.iadd, 1) := by decide +kernel
theorem dX6_back_48 : decode cX6_back 48 = .ok (.iaload, 1) := by decide +kernel
theorem dX6_back_49 : decode cX6_back 49 = .ok (.iastore, 1) := by decide +kernel
theorem dX6_back_50 : decode cX6_back 50 = .ok (.iinc 1 1, 3) := by decide +kernel
theorem dX6_back_53 : decode cX6_back 53 = .ok (.goto (-29), 3) := by decide +kernel
theorem dX6_back_56 : decode cX6_back 56 = .ok (.aload_n 0, 1) := by decide +kernel
theorem dX6_back_57 : decode cX6_back 57 = .ok (.getfield 52, 3) := by decide +kernel
theorem dX6_back_60 : decode cX6_back 60 = .ok (.ireturn, 1) := by decide +kernel
theorem dX6_restOf_0 : decode cX6_restOf 0 = .ok (.iload_n 0, 1) := by decide +kernel
theorem dX6_restOf_1 : decode cX6_restOf 1 = .ok (.sipush 10007, 3) := by decide +kernel
theorem dX6_restOf_4 : decode cX6_restOf 4 = .ok (.irem, 1) := by decide +kernel
theorem dX6_restOf_5 : decode cX6_restOf 5 = .ok (.istore_n 1, 1) := by decide +kernel
theorem dX6_restOf_6 : decode cX6_restOf 6 = .ok (.iload_n 1, 1) := by decide +kernel
theorem dX6_restOf_7 : decode cX6_restOf 7 = .ok (.ifCond .ge 11, 3) := by decide +kernel
theorem dX6_restOf_10 : decode cX6_restOf 10 = .ok (.iload_n 1, 1) := by decide +kernel
theorem dX6_restOf_11 : decode cX6_restOf 11 = .ok (.sipush 10007, 3) := by decide +kernel
theorem dX6_restOf_14 : decode cX6_restOf 14 = .ok (.iadd, 1) := by decide +kernel
theorem dX6_restOf_15 : decode cX6_restOf 15 = .ok (.goto 4, 3) := by decide +kernel
theorem dX6_restOf_18 : decode cX6_restOf 18 = .ok (.iload_n 1, 1) := by decide +kernel
theorem dX6_restOf_19 : decode cX6_restOf 19 = .ok (.ireturn, 1) := by decide +kernel
set_option maxRecDepth 20000 in
theorem ggX6_number_X6_restOf : GoodIn wsX6_number wsX6_restOf := goodIn_r _ [4] (by decide +kernel) (by decide +kernel)
set_option maxRecDepth 20000 in
theorem gX6_number_X6_restOf : GoodIn wsX6_number (va_wsS RX6 60 yX6_restOf wsX6_restOf) := goodIn_app (goodIn_of _ (by decide +kernel)) ggX6_number_X6_restOf
theorem dX6_number_0 : decode cX6_number 0 = .ok (.sipush 10007, 3) := by decide +kernel
theorem dX6_number_3 : decode cX6_number 3 = .ok (.iload_n 0, 1) := by decide +kernel
theorem dX6_number_4 : decode cX6_number 4 = .ok (.invokestatic 60, 3) := by decide +kernel
theorem dX6_number_7 : decode cX6_number 7 = .ok (.imul, 1) := by decide +kernel
theorem dX6_number_8 : decode cX6_number 8 = .ok (.iload_n 1, 1) := by decide +kernel
theorem dX6_number_9 : decode cX6_number 9 = .ok (.invokestatic 60, 3) := by decide +kernel
theorem dX6_number_12 : decode cX6_number 12 = .ok (.iadd, 1) := by decide +kernel
theorem dX6_number_13 : decode cX6_number 13 = .ok (.ireturn, 1) := by decide +kernel
set_option maxRecDepth 20000 in
theorem ggX6_plus_X6_number : GoodIn wsX6_plus wsX6_number := goodIn_r _ [4, 5, 6, 3, 7] (by decide +kernel) (by decide +kernel)
set_option maxRecDepth 20000 in
theorem gX6_plus_X6_number : GoodIn wsX6_plus (va_wsS RX6 64 yX6_number wsX6_number) := goodIn_app (goodIn_of _ (by decide +kernel)) ggX6_plus_X6_number
theorem dX6_plus_0 : decode cX6_plus 0 = .ok (.iload_n 0, 1) := by decide +kernel
theorem dX6_plus_1 : decode cX6_plus 1 = .ok (.sipush 10007, 3) := by decide +kernel
theorem dX6_plus_4 : decode cX6_plus 4 = .ok (.idiv, 1) := by decide +kernel
theorem dX6_plus_5 : decode cX6_plus 5 = .ok (.iload_n 1, 1) := by decide +kernel
theorem dX6_plus_6 : decode cX6_plus 6 = .ok (.sipush 10007, 3) := by decide +kernel
theorem dX6_plus_9 : decode cX6_plus 9 = .ok (.idiv, 1) := by decide +kernel
theorem dX6_plus_10 : decode cX6_plus 10 = .ok (.iadd, 1) := by decide +kernel
theorem dX6_plus_11 : decode cX6_plus 11 = .ok (.iload_n 0, 1) := by decide +kernel
theorem dX6_plus_12 : decode cX6_plus 12 = .ok (.sipush 10007, 3) := by decide +kernel
theorem dX6_plus_15 : decode cX6_plus 15 = .ok (.irem, 1) := by decide +kernel
theorem dX6_plus_16 : decode cX6_plus 16 = .ok (.iload_n 1, 1) := by decide +kernel
theorem dX6_plus_17 : decode cX6_plus 17 = .ok (.sipush 10007, 3) := by decide +kernel
theorem dX6_plus_20 : decode cX6_plus 20 = .ok (.irem, 1) := by decide +kernel
theorem dX6_plus_21 : decode cX6_plus 21 = .ok (.iadd, 1) := by decide +kernel
theorem dX6_plus_22 : decode cX6_plus 22 = .ok (.invokestatic 64, 3) := by decide +kernel
theorem dX6_plus_25 : decode cX6_plus 25 = .ok (.ireturn, 1) := by decide +kernel
set_option maxRecDepth 20000 in
theorem ggX6_less_X6_number : GoodIn wsX6_less wsX6_number := goodIn_r _ [4, 5, 6, 3, 7] (by decide +kernel) (by decide +kernel)
set_option maxRecDepth 20000 in
theorem gX6_less_X6_number : GoodIn wsX6_less (va_wsS RX6 64 yX6_number wsX6_number) := goodIn_app (goodIn_of _ (by decide +kernel)) ggX6_less_X6_number
theorem dX6_less_0 : decode cX6_less 0 = .ok (.iload_n 0, 1) := by decide +kernel
theorem dX6_less_1 : decode cX6_less 1 = .ok (.sipush 10007, 3) := by decide +kernel
theorem dX6_less_4 : decode cX6_less 4 = .ok (.idiv, 1) := by decide +kernel
theorem dX6_less_5 : decode cX6_less 5 = .ok (.iload_n 1, 1) := by decide +kernel
theorem dX6_less_6 : decode cX6_less 6 = .ok (.sipush 10007, 3) := by decide +kernel
theorem dX6_less_9 : decode cX6_less 9 = .ok (.idiv, 1) := by decide +kernel
theorem dX6_less_10 : decode cX6_less 10 = .ok (.isub, 1) := by decide +kernel
theorem dX6_less_11 : decode cX6_less 11 = .ok (.iload_n 0, 1) := by decide +kernel
theorem dX6_less_12 : decode cX6_less 12 = .ok (.sipush 10007, 3) := by decide +kernel
theorem dX6_less_15 : decode cX6_less 15 = .ok (.irem, 1) := by decide +kernel
theorem dX6_less_16 : decode cX6_less 16 = .ok (.iload_n 1, 1) := by decide +kernel
theorem dX6_less_17 : decode cX6_less 17 = .ok (.sipush 10007, 3) := by decide +kernel
theorem dX6_less_20 : decode cX6_less 20 = .ok (.irem, 1) := by decide +kernel
theorem dX6_less_21 : decode cX6_less 21 = .ok (.isub, 1) := by decide +kernel
theorem dX6_less_22 : decode cX6_less 22 = .ok (.invokestatic 64, 3) := by decide +kernel
theorem dX6_less_25 : decode cX6_less 25 = .ok (.ireturn, 1) := by decide +kernel
set_option maxRecDepth 20000 in
theorem ggX6_by_X6_number : GoodIn wsX6_by wsX6_number := goodIn_r _ [4, 5, 6, 3, 7] (by decide +kernel) (by decide +kernel)
set_option maxRecDepth 20000 in
theorem gX6_by_X6_number : GoodIn wsX6_by (va_wsS RX6 64 yX6_number wsX6_number) := goodIn_app (goodIn_of _ (by decide +kernel)) ggX6_by_X6_number
theorem dX6_by_0 : decode cX6_by 0 = .ok (.iload_n 0, 1) := by decide +kernel
theorem dX6_by_1 : decode cX6_by 1 = .ok (.sipush 10007, 3) := by decide +kernel
theorem dX6_by_4 : decode cX6_by 4 = .ok (.idiv, 1) := by decide +kernel
theorem dX6_by_5 : decode cX6_by 5 = .ok (.istore_n 2, 1) := by decide +kernel
theorem dX6_by_6 : decode cX6_by 6 = .ok (.iload_n 0, 1) := by decide +kernel
theorem dX6_by_7 : decode cX6_by 7 = .ok (.sipush 10007, 3) := by decide +kernel
theorem dX6_by_10 : decode cX6_by 10 = .ok (.irem, 1) := by decide +kernel
theorem dX6_by_11 : decode cX6_by 11 = .ok (.istore_n 3, 1) := by decide +kernel
theorem dX6_by_12 : decode cX6_by 12 = .ok (.iload_n 1, 1) := by decide +kernel
theorem dX6_by_13 : decode cX6_by 13 = .ok (.sipush 10007, 3) := by decide +kernel
theorem dX6_by_16 : decode cX6_by 16 = .ok (.idiv, 1) := by decide +kernel
theorem dX6_by_17 : decode cX6_by 17 = .ok (.istore 4, 2) := by decide +kernel
theorem dX6_by_19 : decode cX6_by 19 = .ok (.iload_n 1, 1) := by decide +kernel
theorem dX6_by_20 : decode cX6_by 20 = .ok (.sipush 10007, 3) := by decide +kernel
theorem dX6_by_23 : decode cX6_by 23 = .ok (.irem, 1) := by decide +kernel
theorem dX6_by_24 : decode cX6_by 24 = .ok (.istore 5, 2) := by decide +kernel
theorem dX6_by_26 : decode cX6_by 26 = .ok (.iload_n 2, 1) := by decide +kernel
theorem dX6_by_27 : decode cX6_by 27 = .ok (.iload 4, 2) := by decide +kernel
theorem dX6_by_29 : decode cX6_by 29 = .ok (.imul, 1) := by decide +kernel
theorem dX6_by_30 : decode cX6_by 30 = .ok (.sipush 10007, 3) := by decide +kernel
theorem dX6_by_33 : decode cX6_by 33 = .ok (.irem, 1) := by decide +kernel
theorem dX6_by_34 : decode cX6_by 34 = .ok (.iload_n 3, 1) := by decide +kernel
theorem dX6_by_35 : decode cX6_by 35 = .ok (.iload 5, 2) := by decide +kernel
theorem dX6_by_37 : decode cX6_by 37 = .ok (.imul, 1) := by decide +kernel
theorem dX6_by_38 : decode cX6_by 38 = .ok (.sipush 10007, 3) := by decide +kernel
theorem dX6_by_41 : decode cX6_by 41 = .ok (.irem, 1) := by decide +kernel
theorem dX6_by_42 : decode cX6_by 42 = .ok (.isub, 1) := by decide +kernel
theorem dX6_by_43 : decode cX6_by 43 = .ok (.iload_n 2, 1) := by decide +kernel
theorem dX6_by_44 : decode cX6_by 44 = .ok (.iload 5, 2) := by decide +kernel
theorem dX6_by_46 : decode cX6_by 46 = .ok (.imul, 1) := by decide +kernel
theorem dX6_by_47 : decode cX6_by 47 = .ok (.sipush 10007, 3) := by decide +kernel
theorem dX6_by_50 : decode cX6_by 50 = .ok (.irem, 1) := by decide +kernel
theorem dX6_by_51 : decode cX6_by 51 = .ok (.iload_n 3, 1) := by decide +kernel
theorem dX6_by_52 : decode cX6_by 52 = .ok (.iload 4, 2) := by decide +kernel
theorem dX6_by_54 : decode cX6_by 54 = .ok (.imul, 1) := by decide +kernel
theorem dX6_by_55 : decode cX6_by 55 = .ok (.sipush 10007, 3) := by decide +kernel
theorem dX6_by_58 : decode cX6_by 58 = .ok (.irem, 1) := by decide +kernel
theorem dX6_by_59 : decode cX6_by 59 = .ok (.iadd, 1) := by decide +kernel
theorem dX6_by_60 : decode cX6_by 60 = .ok (.invokestatic 64, 3) := by decide +kernel
theorem dX6_by_63 : decode cX6_by 63 = .ok (.ireturn, 1) := by decide +kernel
set_option maxRecDepth 20000 in
theorem ggX6_otherOf_X6_number : GoodIn wsX6_otherOf wsX6_number := goodIn_r _ [4, 5, 6, 3, 7] (by decide +kernel) (by decide +kernel)
set_option maxRecDepth 20000 in
theorem gX6_otherOf_X6_number : GoodIn wsX6_otherOf (va_wsS RX6 64 yX6_number wsX6_number) := goodIn_app (goodIn_of _ (by decide +kernel)) ggX6_otherOf_X6_number
theorem dX6_otherOf_0 : decode cX6_otherOf 0 = .ok (.iload_n 0, 1) := by decide +kernel
theorem dX6_otherOf_1 : decode cX6_otherOf 1 = .ok (.sipush 10007, 3) := by decide +kernel
theorem dX6_otherOf_4 : decode cX6_otherOf 4 = .ok (.idiv, 1) := by decide +kernel
theorem dX6_otherOf_5 : decode cX6_otherOf 5 = .ok (.iload_n 0, 1) := by decide +kernel
theorem dX6_otherOf_6 : decode cX6_otherOf 6 = .ok (.sipush 10007, 3) := by decide +kernel
theorem dX6_otherOf_9 : decode cX6_otherOf 9 = .ok (.irem, 1) := by decide +kernel
theorem dX6_otherOf_10 : decode cX6_otherOf 10 = .ok (.ineg, 1) := by decide +kernel
theorem dX6_otherOf_11 : decode cX6_otherOf 11 = .ok (.invokestatic 64, 3) := by decide +kernel
theorem dX6_otherOf_14 : decode cX6_otherOf 14 = .ok (.ireturn, 1) := by decide +kernel
theorem dX6_inverse_0 : decode cX6_inverse 0 = .ok (.iconst 1, 1) := by decide +kernel
theorem dX6_inverse_1 : decode cX6_inverse 1 = .ok (.istore_n 1, 1) := by decide +kernel
theorem dX6_inverse_2 : decode cX6_inverse 2 = .ok (.iload_n 0, 1) := by decide +kernel
theorem dX6_inverse_3 : decode cX6_inverse 3 = .ok (.istore_n 2, 1) := by decide +kernel
theorem dX6_inverse_4 : decode cX6_inverse 4 = .ok (.sipush 10005, 3) := by decide +kernel
theorem dX6_inverse_7 : decode cX6_inverse 7 = .ok (.istore_n 3, 1) := by decide +kernel
theorem dX6_inverse_8 : decode cX6_inverse 8 = .ok (.iload_n 3, 1) := by decide +kernel
theorem dX6_inverse_9 : decode cX6_inverse 9 = .ok (.ifCond .le 37, 3) := by decide +kernel
theorem dX6_inverse_12 : decode cX6_inverse 12 = .ok (.iload_n 3, 1) := by decide +kernel
theorem dX6_inverse_13 : decode cX6_inverse 13 = .ok (.iconst 2, 1) := by decide +kernel
theorem dX6_inverse_14 : decode cX6_inverse 14 = .ok (.irem, 1) := by decide +kernel
theorem dX6_inverse_15 : decode cX6_inverse 15 = .ok (.iconst 1, 1) := by decide +kernel
theorem dX6_inverse_16 : decode cX6_inverse 16 = .ok (.if_icmp .ne 13, 3) := by decide +kernel
theorem dX6_inverse_19 : decode cX6_inverse 19 = .ok (.iload_n 1, 1) := by decide +kernel
theorem dX6_inverse_20 : decode cX6_inverse 20 = .ok (.iload_n 2, 1) := by decide +kernel
theorem dX6_inverse_21 : decode cX6_inverse 21 = .ok (.imul, 1) := by decide +kernel
theorem dX6_inverse_22 : decode cX6_inverse 22 = .ok (.sipush 10007, 3) := by decide +kernel
theorem dX6_inverse_25 : decode cX6_inverse 25 = .ok (.irem, 1) := by decide +kernel
theorem dX6_inverse_26 : decode cX6_inverse 26 = .ok (.goto 4, 3) := by decide +kernel
theorem dX6_inverse_29 : decode cX6_inverse 29 = .ok (.iload_n 1, 1) := by decide +kernel
theorem dX6_inverse_30 : decode cX6_inverse 30 = .ok (.istore_n 1, 1) := by decide +kernel
theorem dX6_inverse_31 : decode cX6_inverse 31 = .ok (.iload_n 2, 1) := by decide +kernel
theorem dX6_inverse_32 : decode cX6_inverse 32 = .ok (.iload_n 2, 1) := by decide +kernel
theorem dX6_inverse_33 : decode cX6_inverse 33 = .ok (.imul, 1) := by decide +kernel
theorem dX6_inverse_34 : decode cX6_inverse 34 = .ok (.sipush 10007, 3) := by decide +kernel
theorem dX6_inverse_37 : decode cX6_inverse 37 = .ok (.irem, 1) := by decide +kernel
theorem dX6_inverse_38 : decode cX6_inverse 38 = .ok (.istore_n 2, 1) := by decide +kernel
theorem dX6_inverse_39 : decode cX6_inverse 39 = .ok (.iload_n 3, 1) := by decide +kernel
theorem dX6_inverse_40 : decode cX6_inverse 40 = .ok (.iconst 2, 1) := by decide +kernel
theorem dX6_inverse_41 : decode cX6_inverse 41 = .ok (.idiv, 1) := by decide +kernel
theorem dX6_inverse_42 : decode cX6_inverse 42 = .ok (.istore_n 3, 1) := by decide +kernel
theorem dX6_inverse_43 : decode cX6_inverse 43 = .ok (.goto (-35), 3) := by decide +kernel
theorem dX6_inverse_46 : decode cX6_inverse 46 = .ok (.iload_n 1, 1) := by decide +kernel
theorem dX6_inverse_47 : decode cX6_inverse 47 = .ok (.ireturn, 1) := by decide +kernel
set_option maxRecDepth 20000 in
theorem ggX6_over_X6_inverse : GoodIn wsX6_over wsX6_inverse := goodIn_r _ [5] (by decide +kernel) (by decide +kernel)
set_option maxRecDepth 20000 in
theorem gX6_over_X6_inverse : GoodIn wsX6_over (va_wsS RX6 72 yX6_inverse wsX6_inverse) := goodIn_app (goodIn_of _ (by decide +kernel)) ggX6_over_X6_inverse
set_option maxRecDepth 20000 in
theorem ggX6_over_X6_otherOf : GoodIn wsX6_over wsX6_otherOf := goodIn_r _ [8, 9, 10, 4, 11, 12, 13, 14] (by decide +kernel) (by decide +kernel)
set_option maxRecDepth 20000 in
theorem gX6_over_X6_otherOf : GoodIn wsX6_over (va_wsS RX6 75 yX6_otherOf wsX6_otherOf) := goodIn_app (goodIn_of _ (by decide +kernel)) ggX6_over_X6_otherOf
set_option maxRecDepth 20000 in
theorem ggX6_over_X6_by : GoodIn wsX6_over wsX6_by := goodIn_r _ [17, 9, 10, 4, 11, 12, 13, 14] (by decide +kernel) (by decide +kernel)
set_option maxRecDepth 20000 in
theorem gX6_over_X6_by : GoodIn wsX6_over (va_wsS RX6 78 yX6_by wsX6_by) := goodIn_app (goodIn_of _ (by decide +kernel)) ggX6_over_X6_by
set_option maxRecDepth 20000 in
theorem ggX6_over_X6_number : GoodIn wsX6_over wsX6_number := goodIn_r _ [11, 12, 13, 4, 14] (by decide +kernel) (by decide +kernel)
set_option maxRecDepth 20000 in
theorem gX6_over_X6_number : GoodIn wsX6_over (va_wsS RX6 64 yX6_number wsX6_number) := goodIn_app (goodIn_of _ (by decide +kernel)) ggX6_over_X6_number
theorem dX6_over_0 : decode cX6_over 0 = .ok (.iload_n 2, 1) := by decide +kernel
theorem dX6_over_1 : decode cX6_over 1 = .ok (.ifCond .ne 10, 3) := by decide +kernel
theorem dX6_over_4 : decode cX6_over 4 = .ok (.aload_n 0, 1) := by decide +kernel
theorem dX6_over_5 : decode cX6_over 5 = .ok (.iconst 1, 1) := by decide +kernel
theorem dX6_over_6 : decode cX6_over 6 = .ok (.putfield 68, 3) := by decide +kernel
theorem dX6_over_9 : decode cX6_over 9 = .ok (.iconst 0, 1) := by decide +kernel
theorem dX6_over_10 : decode cX6_over 10 = .ok (.ireturn, 1) := by decide +kernel
theorem dX6_over_11 : decode cX6_over 11 = .ok (.iload_n 2, 1) := by decide +kernel
theorem dX6_over_12 : decode cX6_over 12 = .ok (.sipush 10007, 3) := by decide +kernel
theorem dX6_over_15 : decode cX6_over 15 = .ok (.idiv, 1) := by decide +kernel
theorem dX6_over_16 : decode cX6_over 16 = .ok (.istore_n 3, 1) := by decide +kernel
theorem dX6_over_17 : decode cX6_over 17 = .ok (.iload_n 2, 1) := by decide +kernel
theorem dX6_over_18 : decode cX6_over 18 = .ok (.sipush 10007, 3) := by decide +kernel
theorem dX6_over_21 : decode cX6_over 21 = .ok (.irem, 1) := by decide +kernel
theorem dX6_over_22 : decode cX6_over 22 = .ok (.istore 4, 2) := by decide +kernel
theorem dX6_over_24 : decode cX6_over 24 = .ok (.iload_n 3, 1) := by decide +kernel
theorem dX6_over_25 : decode cX6_over 25 = .ok (.iload_n 3, 1) := by decide +kernel
theorem dX6_over_26 : decode cX6_over 26 = .ok (.imul, 1) := by decide +kernel
theorem dX6_over_27 : decode cX6_over 27 = .ok (.sipush 10007, 3) := by decide +kernel
theorem dX6_over_30 : decode cX6_over 30 = .ok (.irem, 1) := by decide +kernel
theorem dX6_over_31 : decode cX6_over 31 = .ok (.iload 4, 2) := by decide +kernel
theorem dX6_over_33 : decode cX6_over 33 = .ok (.iload 4, 2) := by decide +kernel
theorem dX6_over_35 : decode cX6_over 35 = .ok (.imul, 1) := by decide +kernel
theorem dX6_over_36 : decode cX6_over 36 = .ok (.sipush 10007, 3) := by decide +kernel
theorem dX6_over_39 : decode cX6_over 39 = .ok (.irem, 1) := by decide +kernel
theorem dX6_over_40 : decode cX6_over 40 = .ok (.iadd, 1) := by decide +kernel
theorem dX6_over_41 : decode cX6_over 41 = .ok (.sipush 10007, 3) := by decide +kernel
theorem dX6_over_44 : decode cX6_over 44 = .ok (.irem, 1) := by decide +kernel
theorem dX6_over_45 : decode cX6_over 45 = .ok (.invokestatic 72, 3) := by decide +kernel
theorem dX6_over_48 : decode cX6_over 48 = .ok (.istore 5, 2) := by decide +kernel
theorem dX6_over_50 : decode cX6_over 50 = .ok (.iload_n 1, 1) := by decide +kernel
theorem dX6_over_51 : decode cX6_over 51 = .ok (.iload_n 2, 1) := by decide +kernel
theorem dX6_over_52 : decode cX6_over 52 = .ok (.invokestatic 75, 3) := by decide +kernel
theorem dX6_over_55 : decode cX6_over 55 = .ok (.invokestatic 78, 3) := by decide +kernel
theorem dX6_over_58 : decode cX6_over 58 = .ok (.iload 5, 2) := by decide +kernel
theorem dX6_over_60 : decode cX6_over 60 = .ok (.iconst 0, 1) := by decide +kernel
theorem dX6_over_61 : decode cX6_over 61 = .ok (.invokestatic 64, 3) := by decide +kernel
theorem dX6_over_64 : decode cX6_over 64 = .ok (.invokestatic 78, 3) := by decide +kernel
theorem dX6_over_67 : decode cX6_over 67 = .ok (.ireturn, 1) := by decide +kernel
set_option maxRecDepth 20000 in
theorem ggX6_isPart_X6_in : GoodIn wsX6_isPart wsX6_in := goodIn_r _ [4] (by decide +kernel) (by decide +kernel)
set_option maxRecDepth 20000 in
theorem gX6_isPart_X6_in : GoodIn wsX6_isPart (va_wsS RX6 81 yX6_in wsX6_in) := goodIn_app (goodIn_of _ (by decide +kernel)) ggX6_isPart_X6_in
theorem dX6_isPart_0 : decode cX6_isPart 0 = .ok (.iload_n 0, 1) := by decide +kernel
theorem dX6_isPart_1 : decode cX6_isPart 1 = .ok (.iconst 0, 1) := by decide +kernel
theorem dX6_isPart_2 : decode cX6_isPart 2 = .ok (.sipush 10006, 3) := by decide +kernel
theorem dX6_isPart_5 : decode cX6_isPart 5 = .ok (.invokestatic 81, 3) := by decide +kernel
theorem dX6_isPart_8 : decode cX6_isPart 8 = .ok (.ireturn, 1) := by decide +kernel
set_option maxRecDepth 20000 in
theorem ggX6_isBox_X6_in : GoodIn wsX6_isBox wsX6_in := goodIn_r _ [5] (by decide +kernel) (by decide +kernel)
set_option maxRecDepth 20000 in
theorem gX6_isBox_X6_in : GoodIn wsX6_isBox (va_wsS RX6 81 yX6_in wsX6_in) := goodIn_app (goodIn_of _ (by decide +kernel)) ggX6_isBox_X6_in
theorem dX6_isBox_0 : decode cX6_isBox 0 = .ok (.iload_n 1, 1) := by decide +kernel
theorem dX6_isBox_1 : decode cX6_isBox 1 = .ok (.iconst 0, 1) := by decide +kernel
theorem dX6_isBox_2 : decode cX6_isBox 2 = .ok (.aload_n 0, 1) := by decide +kernel
theorem dX6_isBox_3 : decode cX6_isBox 3 = .ok (.getfield 7, 3) := by decide +kernel
theorem dX6_isBox_6 : decode cX6_isBox 6 = .ok (.iconst 0, 1) := by decide +kernel
theorem dX6_isBox_7 : decode cX6_isBox 7 = .ok (.iaload, 1) := by decide +kernel
theorem dX6_isBox_8 : decode cX6_isBox 8 = .ok (.iconst 1, 1) := by decide +kernel
theorem dX6_isBox_9 : decode cX6_isBox 9 = .ok (.isub, 1) := by decide +kernel
theorem dX6_isBox_10 : decode cX6_isBox 10 = .ok (.invokestatic 81, 3) := by decide +kernel
theorem dX6_isBox_13 : decode cX6_isBox 13 = .ok (.ireturn, 1) := by decide +kernel
theorem dX6_boxAt_0 : decode cX6_boxAt 0 = .ok (.iconst 1, 1) := by decide +kernel
theorem dX6_boxAt_1 : decode cX6_boxAt 1 = .ok (.iconst 4, 1) := by decide +kernel
theorem dX6_boxAt_2 : decode cX6_boxAt 2 = .ok (.iload_n 1, 1) := by decide +kernel
theorem dX6_boxAt_3 : decode cX6_boxAt 3 = .ok (.imul, 1) := by decide +kernel
theorem dX6_boxAt_4 : decode cX6_boxAt 4 = .ok (.iadd, 1) := by decide +kernel
theorem dX6_boxAt_5 : decode cX6_boxAt 5 = .ok (.ireturn, 1) := by decide +kernel
set_option maxRecDepth 20000 in
theorem ggX6_comes_X6_boxAt : GoodIn wsX6_comes wsX6_boxAt := goodIn_r _ [6] (by decide +kernel) (by decide +kernel)
set_option maxRecDepth 20000 in
theorem gX6_comes_X6_boxAt : GoodIn wsX6_comes (wsV RX6 85 RX6 yX6_boxAt wsX6_boxAt) := goodIn_app (goodIn_of _ (by decide +kernel)) ggX6_comes_X6_boxAt
theorem dX6_comes_0 : decode cX6_comes 0 = .ok (.aload_n 0, 1) := by decide +kernel
theorem dX6_comes_1 : decode cX6_comes 1 = .ok (.aload_n 0, 1) := by decide +kernel
theorem dX6_comes_2 : decode cX6_comes 2 = .ok (.getfield 7, 3) := by decide +kernel
theorem dX6_comes_5 : decode cX6_comes 5 = .ok (.iconst 0, 1) := by decide +kernel
theorem dX6_comes_6 : decode cX6_comes 6 = .ok (.iaload, 1) := by decide +kernel
theorem dX6_comes_7 : decode cX6_comes 7 = .ok (.invokevirtual 85, 3) := by decide +kernel
theorem dX6_comes_10 : decode cX6_comes 10 = .ok (.istore 5, 2) := by decide +kernel
theorem dX6_comes_12 : decode cX6_comes 12 = .ok (.aload_n 0, 1) := by decide +kernel
theorem dX6_comes_13 : decode cX6_comes 13 = .ok (.getfield 7, 3) := by decide +kernel
theorem dX6_comes_16 : decode cX6_comes 16 = .ok (.iload 5, 2) := by decide +kernel
theorem dX6_comes_18 : decode cX6_comes 18 = .ok (.iload_n 1, 1) := by decide +kernel
theorem dX6_comes_19 : decode cX6_comes 19 = .ok (.iastore, 1) := by decide +kernel
theorem dX6_comes_20 : decode cX6_comes 20 = .ok (.aload_n 0, 1) := by decide +kernel
theorem dX6_comes_21 : decode cX6_comes 21 = .ok (.getfield 7, 3) := by decide +kernel
theorem dX6_comes_24 : decode cX6_comes 24 = .ok (.iload 5, 2) := by decide +kernel
theorem dX6_comes_26 : decode cX6_comes 26 = .ok (.iconst 1, 1) := by decide +kernel
theorem dX6_comes_27 : decode cX6_comes 27 = .ok (.iadd, 1) := by decide +kernel
theorem dX6_comes_28 : decode cX6_comes 28 = .ok (.iload_n 2, 1) := by decide +kernel
theorem dX6_comes_29 : decode cX6_comes 29 = .ok (.iastore, 1) := by decide +kernel
theorem dX6_comes_30 : decode cX6_comes 30 = .ok (.aload_n 0, 1) := by decide +kernel
theorem dX6_comes_31 : decode cX6_comes 31 = .ok (.getfield 7, 3) := by decide +kernel
theorem dX6_comes_34 : decode cX6_comes 34 = .ok (.iload 5, 2) := by decide +kernel
theorem dX6_comes_36 : decode cX6_comes 36 = .ok (.iconst 2, 1) := by decide +kernel
theorem dX6_comes_37 : decode cX6_comes 37 = .ok (.iadd, 1) := by decide +kernel
theorem dX6_comes_38 : decode cX6_comes 38 = .ok (.iload_n 3, 1) := by decide +kernel
theorem dX6_comes_39 : decode cX6_comes 39 = .ok (.iastore, 1) := by decide +kernel
theorem dX6_comes_40 : decode cX6_comes 40 = .ok (.aload_n 0, 1) := by decide +kernel
theorem dX6_comes_41 : decode cX6_comes 41 = .ok (.getfield 7, 3) := by decide +kernel
theorem dX6_comes_44 : decode cX6_comes 44 = .ok (.iload 5, 2) := by decide +kernel
theorem dX6_comes_46 : decode cX6_comes 46 = .ok (.iconst 3, 1) := by decide +kernel
theorem dX6_comes_47 : decode cX6_comes 47 = .ok (.iadd, 1) := by decide +kernel
theorem dX6_comes_48 : decode cX6_comes 48 = .ok (.iload 4, 2) := by decide +kernel
theorem dX6_comes_50 : decode cX6_comes 50 = .ok (.iastore, 1) := by decide +kernel
theorem dX6_comes_51 : decode cX6_comes 51 = .ok (.aload_n 0, 1) := by decide +kernel
theorem dX6_comes_52 : decode cX6_comes 52 = .ok (.getfield 7, 3) := by decide +kernel
theorem dX6_comes_55 : decode cX6_comes 55 = .ok (.iconst 0, 1) := by decide +kernel
theorem dX6_comes_56 : decode cX6_comes 56 = .ok (.dup2, 1) := by decide +kernel
theorem dX6_comes_57 : decode cX6_comes 57 = .ok (.iaload, 1) := by decide +kernel
theorem dX6_comes_58 : decode cX6_comes 58 = .ok (.iconst 1, 1) := by decide +kernel
theorem dX6_comes_59 : decode cX6_comes 59 = .ok (.iadd, 1) := by decide +kernel
theorem dX6_comes_60 : decode cX6_comes 60 = .ok (.iastore, 1) := by decide +kernel
theorem dX6_comes_61 : decode cX6_comes 61 = .ok (.aload_n 0, 1) := by decide +kernel
theorem dX6_comes_62 : decode cX6_comes 62 = .ok (.getfield 7, 3) := by decide +kernel
theorem dX6_comes_65 : decode cX6_comes 65 = .ok (.iconst 0, 1) := by decide +kernel
theorem dX6_comes_66 : decode cX6_comes 66 = .ok (.iaload, 1) := by decide +kernel
theorem dX6_comes_67 : decode cX6_comes 67 = .ok (.iconst 1, 1) := by decide +kernel
theorem dX6_comes_68 : decode cX6_comes 68 = .ok (.isub, 1) := by decide +kernel
theorem dX6_comes_69 : decode cX6_comes 69 = .ok (.ireturn, 1) := by decide +kernel
set_option maxRecDepth 20000 in
theorem ggX6_box_X6_full : GoodIn wsX6_box wsX6_full := goodIn_r _ [6, 7, 22, 23, 24, 25, 26, 27, 28, 29, 30, 31, 32, 33, 34, 35, 36, 37, 38, 39, 40, 41, 42] (by decide +kernel) (by decide +kernel)
set_option maxRecDepth 20000 in
theorem gX6_box_X6_full : GoodIn wsX6_box (wsV RX6 88 RX6 yX6_full wsX6_full) := goodIn_app (goodIn_of _ (by decide +kernel)) ggX6_box_X6_full
set_option maxRecDepth 20000 in
theorem ggX6_box_X6_remembers : GoodIn wsX6_box wsX6_remembers := goodIn_r _ [11, 12, 13, 1, 22, 23, 24, 25, 26, 27, 28, 29, 30, 31, 32, 33, 34, 35, 36, 37, 38, 39, 40, 41, 42] (by decide +kernel) (by decide +kernel)
set_option maxRecDepth 20000 in
theorem gX6_box_X6_remembers : GoodIn wsX6_box (wsV RX6 91 RX6 yX6_remembers wsX6_remembers) := goodIn_app (goodIn_of _ (by decide +kernel)) ggX6_box_X6_remembers
set_option maxRecDepth 20000 in
theorem ggX6_box_X6_comes : GoodIn wsX6_box wsX6_comes := goodIn_r _ [17, 1, 18, 19, 20, 5, 21, 22, 23, 24, 25, 26, 27, 28, 29, 30, 31, 32, 33, 34, 35, 36, 37, 38, 39, 40, 41, 42] (by decide +kernel) (by decide +kernel)
set_option maxRecDepth 20000 in
theorem gX6_box_X6_comes : GoodIn wsX6_box (wsV RX6 94 RX6 yX6_comes wsX6_comes) := goodIn_app (goodIn_of _ (by decide +kernel)) ggX6_box_X6_comes
theorem dX6_box_0 : decode cX6_box 0 = .ok (.aload_n 0, 1) := by decide +kernel
theorem dX6_box_1 : decode cX6_box 1 = .ok (.getfield 7, 3) := by decide +kernel
theorem dX6_box_4 : decode cX6_box 4 = .ok (.iconst 0, 1) := by decide +kernel
theorem dX6_box_5 : decode cX6_box 5 = .ok (.iaload, 1) := by decide +kernel
theorem dX6_box_6 : decode cX6_box 6 = .ok (.bipush 8, 2) := by decide +kernel
theorem dX6_box_8 : decode cX6_box 8 = .ok (.if_icmp .ne 8, 3) := by decide +kernel
theorem dX6_box_11 : decode cX6_box 11 = .ok (.aload_n 0, 1) := by decide +kernel
theorem dX6_box_12 : decode cX6_box 12 = .ok (.invokevirtual 88, 3) := by decide +kernel
theorem dX6_box_15 : decode cX6_box 15 = .ok (.ireturn, 1) := by decide +kernel
theorem dX6_box_16 : decode cX6_box 16 = .ok (.aload_n 0, 1) := by decide +kernel
theorem dX6_box_17 : decode cX6_box 17 = .ok (.invokevirtual 91, 3) := by decide +kernel
theorem dX6_box_20 : decode cX6_box 20 = .ok (.aload_n 0, 1) := by decide +kernel
theorem dX6_box_21 : decode cX6_box 21 = .ok (.iconst 0, 1) := by decide +kernel
theorem dX6_box_22 : decode cX6_box 22 = .ok (.sipush 10007, 3) := by decide +kernel
theorem dX6_box_25 : decode cX6_box 25 = .ok (.sipush 10007, 3) := by decide +kernel
theorem dX6_box_28 : decode cX6_box 28 = .ok (.iconst 0, 1) := by decide +kernel
theorem dX6_box_29 : decode cX6_box 29 = .ok (.invokevirtual 94, 3) := by decide +kernel
theorem dX6_box_32 : decode cX6_box 32 = .ok (.ireturn, 1) := by decide +kernel
theorem dX6_exchanges_0 : decode cX6_exchanges 0 = .ok (.aload_n 0, 1) := by decide +kernel
theorem dX6_exchanges_1 : decode cX6_exchanges 1 = .ok (.getfield 7, 3) := by decide +kernel
theorem dX6_exchanges_4 : decode cX6_exchanges 4 = .ok (.iload_n 1, 1) := by decide +kernel
theorem dX6_exchanges_5 : decode cX6_exchanges 5 = .ok (.iaload, 1) := by decide +kernel
theorem dX6_exchanges_6 : decode cX6_exchanges 6 = .ok (.istore_n 3, 1) := by decide +kernel
theorem dX6_exchanges_7 : decode cX6_exchanges 7 = .ok (.aload_n 0, 1) := by decide +kernel
theorem dX6_exchanges_8 : decode cX6_exchanges 8 = .ok (.getfield 7, 3) := by decide +kernel
theorem dX6_exchanges_11 : decode cX6_exchanges 11 = .ok (.iload_n 1, 1) := by decide +kernel
theorem dX6_exchanges_12 : decode cX6_exchanges 12 = .ok (.iload_n 2, 1) := by decide +kernel
theorem dX6_exchanges_13 : decode cX6_exchanges 13 = .ok (.iastore, 1) := by decide +kernel
theorem dX6_exchanges_14 : decode cX6_exchanges 14 = .ok (.iload_n 3, 1) := by decide +kernel
theorem dX6_exchanges_15 : decode cX6_exchanges 15 = .ok (.ireturn, 1) := by decide +kernel
set_option maxRecDepth 20000 in
theorem ggX6_sets_X6_isBox : GoodIn wsX6_sets wsX6_isBox := goodIn_r _ [5, 6, 7, 8, 4, 9, 38, 39, 40, 41, 42, 43, 44, 45, 46, 47, 48, 49, 50, 51, 52, 53, 54, 55, 56, 57, 58] (by decide +kernel) (by decide +kernel)
set_option maxRecDepth 20000 in
theorem gX6_sets_X6_isBox : GoodIn wsX6_sets (wsV RX6 98 RX6 yX6_isBox wsX6_isBox) := goodIn_app (goodIn_of _ (by decide +kernel)) ggX6_sets_X6_isBox
set_option maxRecDepth 20000 in
theorem ggX6_sets_X6_in : GoodIn wsX6_sets wsX6_in := goodIn_r _ [9] (by decide +kernel) (by decide +kernel)
set_option maxRecDepth 20000 in
theorem gX6_sets_X6_in : GoodIn wsX6_sets (va_wsS RX6 81 yX6_in wsX6_in) := goodIn_app (goodIn_of _ (by decide +kernel)) ggX6_sets_X6_in
set_option maxRecDepth 20000 in
theorem ggX6_sets_X6_isPart : GoodIn wsX6_sets wsX6_isPart := goodIn_r _ [12, 7, 8, 4, 9] (by decide +kernel) (by decide +kernel)
set_option maxRecDepth 20000 in
theorem gX6_sets_X6_isPart : GoodIn wsX6_sets (va_wsS RX6 102 yX6_isPart wsX6_isPart) := goodIn_app (goodIn_of _ (by decide +kernel)) ggX6_sets_X6_isPart
set_option maxRecDepth 20000 in
theorem ggX6_sets_X6_bad : GoodIn wsX6_sets wsX6_bad := goodIn_r _ [16, 17, 38, 39, 40, 41, 42, 43, 44, 45, 46, 47, 48, 49, 50, 51, 52, 53, 54, 55, 56, 57, 58] (by decide +kernel) (by decide +kernel)
set_option maxRecDepth 20000 in
theorem gX6_sets_X6_bad : GoodIn wsX6_sets (wsV RX6 105 RX6 yX6_bad wsX6_bad) := goodIn_app (goodIn_of _ (by decide +kernel)) ggX6_sets_X6_bad
set_option maxRecDepth 20000 in
theorem ggX6_sets_X6_remembers : GoodIn wsX6_sets wsX6_remembers := goodIn_r _ [21, 22, 23, 6, 38, 39, 40, 41, 42, 43, 44, 45, 46, 47, 48, 49, 50, 51, 52, 53, 54, 55, 56, 57, 58] (by decide +kernel) (by decide +kernel)
set_option maxRecDepth 20000 in
theorem gX6_sets_X6_remembers : GoodIn wsX6_sets (wsV RX6 91 RX6 yX6_remembers wsX6_remembers) := goodIn_app (goodIn_of _ (by decide +kernel)) ggX6_sets_X6_remembers
set_option maxRecDepth 20000 in
theorem ggX6_sets_X6_boxAt : GoodIn wsX6_sets wsX6_boxAt := goodIn_r _ [27] (by decide +kernel) (by decide +kernel)
set_option maxRecDepth 20000 in
theorem gX6_sets_X6_boxAt : GoodIn wsX6_sets (wsV RX6 85 RX6 yX6_boxAt wsX6_boxAt) := goodIn_app (goodIn_of _ (by decide +kernel)) ggX6_sets_X6_boxAt
set_option maxRecDepth 20000 in
theorem ggX6_sets_X6_number : GoodIn wsX6_sets wsX6_number := goodIn_r _ [30, 31, 32, 4, 33] (by decide +kernel) (by decide +kernel)
set_option maxRecDepth 20000 in
theorem gX6_sets_X6_number : GoodIn wsX6_sets (va_wsS RX6 64 yX6_number wsX6_number) := goodIn_app (goodIn_of _ (by decide +kernel)) ggX6_sets_X6_number
set_option maxRecDepth 20000 in
theorem ggX6_sets_X6_exchanges : GoodIn wsX6_sets wsX6_exchanges := goodIn_r _ [37, 6, 38, 39, 40, 41, 42, 43, 44, 45, 46, 47, 48, 49, 50, 51, 52, 53, 54, 55, 56, 57, 58] (by decide +kernel) (by decide +kernel)
set_option maxRecDepth 20000 in
theorem gX6_sets_X6_exchanges : GoodIn wsX6_sets (wsV RX6 108 RX6 yX6_exchanges wsX6_exchanges) := goodIn_app (goodIn_of _ (by decide +kernel)) ggX6_sets_X6_exchanges
theorem dX6_sets_0 : decode cX6_sets 0 = .ok (.aload_n 0, 1) := by decide +kernel
theorem dX6_sets_1 : decode cX6_sets 1 = .ok (.iload_n 1, 1) := by decide +kernel
theorem dX6_sets_2 : decode cX6_sets 2 = .ok (.invokevirtual 98, 3) := by decide +kernel
theorem dX6_sets_5 : decode cX6_sets 5 = .ok (.ifCond .eq 27, 3) := by decide +kernel
theorem dX6_sets_8 : decode cX6_sets 8 = .ok (.iload_n 2, 1) := by decide +kernel
theorem dX6_sets_9 : decode cX6_sets 9 = .ok (.iconst 0, 1) := by decide +kernel
theorem dX6_sets_10 : decode cX6_sets 10 = .ok (.iconst 3, 1) := by decide +kernel
theorem dX6_sets_11 : decode cX6_sets 11 = .ok (.invokestatic 81, 3) := by decide +kernel
theorem dX6_sets_14 : decode cX6_sets 14 = .ok (.ifCond .eq 18, 3) := by decide +kernel
theorem dX6_sets_17 : decode cX6_sets 17 = .ok (.iload_n 3, 1) := by decide +kernel
theorem dX6_sets_18 : decode cX6_sets 18 = .ok (.invokestatic 102, 3) := by decide +kernel
theorem dX6_sets_21 : decode cX6_sets 21 = .ok (.ifCond .eq 11, 3) := by decide +kernel
theorem dX6_sets_24 : decode cX6_sets 24 = .ok (.iload 4, 2) := by decide +kernel
theorem dX6_sets_26 : decode cX6_sets 26 = .ok (.invokestatic 102, 3) := by decide +kernel
theorem dX6_sets_29 : decode cX6_sets 29 = .ok (.ifCond .ne 8, 3) := by decide +kernel
theorem dX6_sets_32 : decode cX6_sets 32 = .ok (.aload_n 0, 1) := by decide +kernel
theorem dX6_sets_33 : decode cX6_sets 33 = .ok (.invokevirtual 105, 3) := by decide +kernel
theorem dX6_sets_36 : decode cX6_sets 36 = .ok (.ireturn, 1) := by decide +kernel
theorem dX6_sets_37 : decode cX6_sets 37 = .ok (.aload_n 0, 1) := by decide +kernel
theorem dX6_sets_38 : decode cX6_sets 38 = .ok (.invokevirtual 91, 3) := by decide +kernel
theorem dX6_sets_41 : decode cX6_sets 41 = .ok (.aload_n 0, 1) := by decide +kernel
theorem dX6_sets_42 : decode cX6_sets 42 = .ok (.aload_n 0, 1) := by decide +kernel
theorem dX6_sets_43 : decode cX6_sets 43 = .ok (.iload_n 1, 1) := by decide +kernel
theorem dX6_sets_44 : decode cX6_sets 44 = .ok (.invokevirtual 85, 3) := by decide +kernel
theorem dX6_sets_47 : decode cX6_sets 47 = .ok (.iload_n 2, 1) := by decide +kernel
theorem dX6_sets_48 : decode cX6_sets 48 = .ok (.iadd, 1) := by decide +kernel
theorem dX6_sets_49 : decode cX6_sets 49 = .ok (.iload_n 3, 1) := by decide +kernel
theorem dX6_sets_50 : decode cX6_sets 50 = .ok (.iload 4, 2) := by decide +kernel
theorem dX6_sets_52 : decode cX6_sets 52 = .ok (.invokestatic 64, 3) := by decide +kernel
theorem dX6_sets_55 : decode cX6_sets 55 = .ok (.invokevirtual 108, 3) := by decide +kernel
theorem dX6_sets_58 : decode cX6_sets 58 = .ok (.ireturn, 1) := by decide +kernel
set_option maxRecDepth 20000 in
theorem ggX6_isError_X6_in : GoodIn wsX6_isError wsX6_in := goodIn_r _ [4] (by decide +kernel) (by decide +kernel)
set_option maxRecDepth 20000 in
theorem gX6_isError_X6_in : GoodIn wsX6_isError (va_wsS RX6 81 yX6_in wsX6_in) := goodIn_app (goodIn_of _ (by decide +kernel)) ggX6_isError_X6_in
theorem dX6_isError_0 : decode cX6_isError 0 = .ok (.iload_n 0, 1) := by decide +kernel
theorem dX6_isError_1 : decode cX6_isError 1 = .ok (.iconst 0, 1) := by decide +kernel
theorem dX6_isError_2 : decode cX6_isError 2 = .ok (.bipush 11, 2) := by decide +kernel
theorem dX6_isError_4 : decode cX6_isError 4 = .ok (.invokestatic 81, 3) := by decide +kernel
theorem dX6_isError_7 : decode cX6_isError 7 = .ok (.ireturn, 1) := by decide +kernel
set_option maxRecDepth 20000 in
theorem ggX6_errs_X6_isError : GoodIn wsX6_errs wsX6_isError := goodIn_r _ [4, 5, 6, 3, 7] (by decide +kernel) (by decide +kernel)
set_option maxRecDepth 20000 in
theorem gX6_errs_X6_isError : GoodIn wsX6_errs (va_wsS RX6 111 yX6_isError wsX6_isError) := goodIn_app (goodIn_of _ (by decide +kernel)) ggX6_errs_X6_isError
set_option maxRecDepth 20000 in
theorem ggX6_errs_X6_isPart : GoodIn wsX6_errs wsX6_isPart := goodIn_r _ [10, 5, 6, 3, 7] (by decide +kernel) (by decide +kernel)
set_option maxRecDepth 20000 in
theorem gX6_errs_X6_isPart : GoodIn wsX6_errs (va_wsS RX6 102 yX6_isPart wsX6_isPart) := goodIn_app (goodIn_of _ (by decide +kernel)) ggX6_errs_X6_isPart
set_option maxRecDepth 20000 in
theorem ggX6_errs_X6_bad : GoodIn wsX6_errs wsX6_bad := goodIn_r _ [14, 15, 33, 34, 35, 36, 37, 38, 39, 40, 41, 42, 43, 44, 45, 46, 47, 48, 49, 50, 51, 52, 53] (by decide +kernel) (by decide +kernel)
set_option maxRecDepth 20000 in
theorem gX6_errs_X6_bad : GoodIn wsX6_errs (wsV RX6 105 RX6 yX6_bad wsX6_bad) := goodIn_app (goodIn_of _ (by decide +kernel)) ggX6_errs_X6_bad
set_option maxRecDepth 20000 in
theorem ggX6_errs_X6_remembers : GoodIn wsX6_errs wsX6_remembers := goodIn_r _ [19, 20, 21, 22, 33, 34, 35, 36, 37, 38, 39, 40, 41, 42, 43, 44, 45, 46, 47, 48, 49, 50, 51, 52, 53] (by decide +kernel) (by decide +kernel)
set_option maxRecDepth 20000 in
theorem gX6_errs_X6_remembers : GoodIn wsX6_errs (wsV RX6 91 RX6 yX6_remembers wsX6_remembers) := goodIn_app (goodIn_of _ (by decide +kernel)) ggX6_errs_X6_remembers
set_option maxRecDepth 20000 in
theorem ggX6_errs_X6_number : GoodIn wsX6_errs wsX6_number := goodIn_r _ [25, 26, 27, 3, 28] (by decide +kernel) (by decide +kernel)
set_option maxRecDepth 20000 in
theorem gX6_errs_X6_number : GoodIn wsX6_errs (va_wsS RX6 64 yX6_number wsX6_number) := goodIn_app (goodIn_of _ (by decide +kernel)) ggX6_errs_X6_number
set_option maxRecDepth 20000 in
theorem ggX6_errs_X6_exchanges : GoodIn wsX6_errs wsX6_exchanges := goodIn_r _ [32, 22, 33, 34, 35, 36, 37, 38, 39, 40, 41, 42, 43, 44, 45, 46, 47, 48, 49, 50, 51, 52, 53] (by decide +kernel) (by decide +kernel)
set_option maxRecDepth 20000 in
theorem gX6_errs_X6_exchanges : GoodIn wsX6_errs (wsV RX6 108 RX6 yX6_exchanges wsX6_exchanges) := goodIn_app (goodIn_of _ (by decide +kernel)) ggX6_errs_X6_exchanges
theorem dX6_errs_0 : decode cX6_errs 0 = .ok (.iload_n 1, 1) := by decide +kernel
theorem dX6_errs_1 : decode cX6_errs 1 = .ok (.invokestatic 111, 3) := by decide +kernel
theorem dX6_errs_4 : decode cX6_errs 4 = .ok (.ifCond .eq 17, 3) := by decide +kernel
theorem dX6_errs_7 : decode cX6_errs 7 = .ok (.iload_n 2, 1) := by decide +kernel
theorem dX6_errs_8 : decode cX6_errs 8 = .ok (.invokestatic 102, 3) := by decide +kernel
theorem dX6_errs_11 : decode cX6_errs 11 = .ok (.ifCond .eq 10, 3) := by decide +kernel
theorem dX6_errs_14 : decode cX6_errs 14 = .ok (.iload_n 3, 1) := by decide +kernel
theorem dX6_errs_15 : decode cX6_errs 15 = .ok (.invokestatic 102, 3) := by decide +kernel
theorem dX6_errs_18 : decode cX6_errs 18 = .ok (.ifCond .ne 8, 3) := by decide +kernel
theorem dX6_errs_21 : decode cX6_errs 21 = .ok (.aload_n 0, 1) := by decide +kernel
theorem dX6_errs_22 : decode cX6_errs 22 = .ok (.invokevirtual 105, 3) := by decide +kernel
theorem dX6_errs_25 : decode cX6_errs 25 = .ok (.ireturn, 1) := by decide +kernel
theorem dX6_errs_26 : decode cX6_errs 26 = .ok (.aload_n 0, 1) := by decide +kernel
theorem dX6_errs_27 : decode cX6_errs 27 = .ok (.invokevirtual 91, 3) := by decide +kernel
theorem dX6_errs_30 : decode cX6_errs 30 = .ok (.aload_n 0, 1) := by decide +kernel
theorem dX6_errs_31 : decode cX6_errs 31 = .ok (.bipush 33, 2) := by decide +kernel
theorem dX6_errs_33 : decode cX6_errs 33 = .ok (.iload_n 1, 1) := by decide +kernel
theorem dX6_errs_34 : decode cX6_errs 34 = .ok (.iadd, 1) := by decide +kernel
theorem dX6_errs_35 : decode cX6_errs 35 = .ok (.iload_n 2, 1) := by decide +kernel
theorem dX6_errs_36 : decode cX6_errs 36 = .ok (.iload_n 3, 1) := by decide +kernel
theorem dX6_errs_37 : decode cX6_errs 37 = .ok (.invokestatic 64, 3) := by decide +kernel
theorem dX6_errs_40 : decode cX6_errs 40 = .ok (.invokevirtual 108, 3) := by decide +kernel
theorem dX6_errs_43 : decode cX6_errs 43 = .ok (.ireturn, 1) := by decide +kernel
set_option maxRecDepth 20000 in
theorem ggX6_drops_X6_isBox : GoodIn wsX6_drops wsX6_isBox := goodIn_r _ [6, 1, 7, 8, 5, 9, 25, 26, 27, 28, 29, 30, 31, 32, 33, 34, 35, 36, 37, 38, 39, 40, 41, 42, 43, 44, 45] (by decide +kernel) (by decide +kernel)
set_option maxRecDepth 20000 in
theorem gX6_drops_X6_isBox : GoodIn wsX6_drops (wsV RX6 98 RX6 yX6_isBox wsX6_isBox) := goodIn_app (goodIn_of _ (by decide +kernel)) ggX6_drops_X6_isBox
set_option maxRecDepth 20000 in
theorem ggX6_drops_X6_bad : GoodIn wsX6_drops wsX6_bad := goodIn_r _ [13, 14, 25, 26, 27, 28, 29, 30, 31, 32, 33, 34, 35, 36, 37, 38, 39, 40, 41, 42, 43, 44, 45] (by decide +kernel) (by decide +kernel)
set_option maxRecDepth 20000 in
theorem gX6_drops_X6_bad : GoodIn wsX6_drops (wsV RX6 105 RX6 yX6_bad wsX6_bad) := goodIn_app (goodIn_of _ (by decide +kernel)) ggX6_drops_X6_bad
set_option maxRecDepth 20000 in
theorem ggX6_drops_X6_remembers : GoodIn wsX6_drops wsX6_remembers := goodIn_r _ [18, 19, 20, 1, 25, 26, 27, 28, 29, 30, 31, 32, 33, 34, 35, 36, 37, 38, 39, 40, 41, 42, 43, 44, 45] (by decide +kernel) (by decide +kernel)
set_option maxRecDepth 20000 in
theorem gX6_drops_X6_remembers : GoodIn wsX6_drops (wsV RX6 91 RX6 yX6_remembers wsX6_remembers) := goodIn_app (goodIn_of _ (by decide +kernel)) ggX6_drops_X6_remembers
set_option maxRecDepth 20000 in
theorem ggX6_drops_X6_boxAt : GoodIn wsX6_drops wsX6_boxAt := goodIn_r _ [24] (by decide +kernel) (by decide +kernel)
set_option maxRecDepth 20000 in
theorem gX6_drops_X6_boxAt : GoodIn wsX6_drops (wsV RX6 85 RX6 yX6_boxAt wsX6_boxAt) := goodIn_app (goodIn_of _ (by decide +kernel)) ggX6_drops_X6_boxAt
theorem dX6_drops_0 : decode cX6_drops 0 = .ok (.aload_n 0, 1) := by decide +kernel
theorem dX6_drops_1 : decode cX6_drops 1 = .ok (.iload_n 1, 1) := by decide +kernel
theorem dX6_drops_2 : decode cX6_drops 2 = .ok (.invokevirtual 98, 3) := by decide +kernel
theorem dX6_drops_5 : decode cX6_drops 5 = .ok (.ifCond .ne 8, 3) := by decide +kernel
theorem dX6_drops_8 : decode cX6_drops 8 = .ok (.aload_n 0, 1) := by decide +kernel
theorem dX6_drops_9 : decode cX6_drops 9 = .ok (.invokevirtual 105, 3) := by decide +kernel
theorem dX6_drops_12 : decode cX6_drops 12 = .ok (.ireturn, 1) := by decide +kernel
theorem dX6_drops_13 : decode cX6_drops 13 = .ok (.aload_n 0, 1) := by decide +kernel
theorem dX6_drops_14 : decode cX6_drops 14 = .ok (.invokevirtual 91, 3) := by decide +kernel
theorem dX6_drops_17 : decode cX6_drops 17 = .ok (.aload_n 0, 1) := by decide +kernel
theorem dX6_drops_18 : decode cX6_drops 18 = .ok (.getfield 7, 3) := by decide +kernel
theorem dX6_drops_21 : decode cX6_drops 21 = .ok (.iconst 0, 1) := by decide +kernel
theorem dX6_drops_22 : decode cX6_drops 22 = .ok (.dup2, 1) := by decide +kernel
theorem dX6_drops_23 : decode cX6_drops 23 = .ok (.iaload, 1) := by decide +kernel
theorem dX6_drops_24 : decode cX6_drops 24 = .ok (.iconst 1, 1) := by decide +kernel
theorem dX6_drops_25 : decode cX6_drops 25 = .ok (.isub, 1) := by decide +kernel
theorem dX6_drops_26 : decode cX6_drops 26 = .ok (.iastore, 1) := by decide +kernel
theorem dX6_drops_27 : decode cX6_drops 27 = .ok (.aload_n 0, 1) := by decide +kernel
theorem dX6_drops_28 : decode cX6_drops 28 = .ok (.iload_n 1, 1) := by decide +kernel
theorem dX6_drops_29 : decode cX6_drops 29 = .ok (.invokevirtual 85, 3) := by decide +kernel
theorem dX6_drops_32 : decode cX6_drops 32 = .ok (.istore_n 2, 1) := by decide +kernel
theorem dX6_drops_33 : decode cX6_drops 33 = .ok (.iload_n 2, 1) := by decide +kernel
theorem dX6_drops_34 : decode cX6_drops 34 = .ok (.aload_n 0, 1) := by decide +kernel
theorem dX6_drops_35 : decode cX6_drops 35 = .ok (.aload_n 0, 1) := by decide +kernel
theorem dX6_drops_36 : decode cX6_drops 36 = .ok (.getfield 7, 3) := by decide +kernel
theorem dX6_drops_39 : decode cX6_drops 39 = .ok (.iconst 0, 1) := by decide +kernel
theorem dX6_drops_40 : decode cX6_drops 40 = .ok (.iaload, 1) := by decide +kernel
theorem dX6_drops_41 : decode cX6_drops 41 = .ok (.invokevirtual 85, 3) := by decide +kernel
theorem dX6_drops_44 : decode cX6_drops 44 = .ok (.if_icmp .ge 23, 3) := by decide +kernel
theorem dX6_drops_47 : decode cX6_drops 47 = .ok (.aload_n 0, 1) := by decide +kernel
theorem dX6_drops_48 : decode cX6_drops 48 = .ok (.getfield 7, 3) := by decide +kernel
theorem dX6_drops_51 : decode cX6_drops 51 = .ok (.iload_n 2, 1) := by decide +kernel
theorem dX6_drops_52 : decode cX6_drops 52 = .ok (.aload_n 0, 1) := by decide +kernel
theorem dX6_drops_53 : decode cX6_drops 53 = .ok (.getfield 7, 3) := by decide +kernel
theorem dX6_drops_56 : decode cX6_drops 56 = .ok (.iload_n 2, 1) := by decide +kernel
theorem dX6_drops_57 : decode cX6_drops 57 = .ok (.iconst 4, 1) := by decide +kernel
theorem dX6_drops_58 : decode cX6_drops 58 = .ok (.iadd, 1) := by decide +kernel
theorem dX6_drops_59 : decode cX6_drops 59 = .ok (.iaload, 1) := by decide +kernel
theorem dX6_drops_60 : decode cX6_drops 60 = .ok (.iastore, 1) := by decide +kernel
theorem dX6_drops_61 : decode cX6_drops 61 = .ok (.iinc 2 1, 3) := by decide +kernel
theorem dX6_drops_64 : decode cX6_drops 64 = .ok (.goto (-31), 3) := by decide +kernel
theorem dX6_drops_67 : decode cX6_drops 67 = .ok (.aload_n 0, 1) := by decide +kernel
theorem dX6_drops_68 : decode cX6_drops 68 = .ok (.getfield 7, 3) := by decide +kernel
theorem dX6_drops_71 : decode cX6_drops 71 = .ok (.iconst 0, 1) := by decide +kernel
theorem dX6_drops_72 : decode cX6_drops 72 = .ok (.iaload, 1) := by decide +kernel
theorem dX6_drops_73 : decode cX6_drops 73 = .ok (.ireturn, 1) := by decide +kernel
set_option maxRecDepth 20000 in
theorem ggX6_of_X6_isBox : GoodIn wsX6_of wsX6_isBox := goodIn_r _ [6, 1, 7, 8, 5, 9, 19, 20, 21, 22, 23, 24, 25, 26, 27, 28, 29, 30, 31, 32, 33, 34, 35, 36, 37, 38, 39] (by decide +kernel) (by decide +kernel)
set_option maxRecDepth 20000 in
theorem gX6_of_X6_isBox : GoodIn wsX6_of (wsV RX6 98 RX6 yX6_isBox wsX6_isBox) := goodIn_app (goodIn_of _ (by decide +kernel)) ggX6_of_X6_isBox
set_option maxRecDepth 20000 in
theorem ggX6_of_X6_in : GoodIn wsX6_of wsX6_in := goodIn_r _ [9] (by decide +kernel) (by decide +kernel)
set_option maxRecDepth 20000 in
theorem gX6_of_X6_in : GoodIn wsX6_of (va_wsS RX6 81 yX6_in wsX6_in) := goodIn_app (goodIn_of _ (by decide +kernel)) ggX6_of_X6_in
set_option maxRecDepth 20000 in
theorem ggX6_of_X6_boxAt : GoodIn wsX6_of wsX6_boxAt := goodIn_r _ [13] (by decide +kernel) (by decide +kernel)
set_option maxRecDepth 20000 in
theorem gX6_of_X6_boxAt : GoodIn wsX6_of (wsV RX6 85 RX6 yX6_boxAt wsX6_boxAt) := goodIn_app (goodIn_of _ (by decide +kernel)) ggX6_of_X6_boxAt
set_option maxRecDepth 20000 in
theorem ggX6_of_X6_bad : GoodIn wsX6_of wsX6_bad := goodIn_r _ [17, 18, 19, 20, 21, 22, 23, 24, 25, 26, 27, 28, 29, 30, 31, 32, 33, 34, 35, 36, 37, 38, 39] (by decide +kernel) (by decide +kernel)
set_option maxRecDepth 20000 in
theorem gX6_of_X6_bad : GoodIn wsX6_of (wsV RX6 105 RX6 yX6_bad wsX6_bad) := goodIn_app (goodIn_of _ (by decide +kernel)) ggX6_of_X6_bad
theorem dX6_of_0 : decode cX6_of 0 = .ok (.aload_n 0, 1) := by decide +kernel
theorem dX6_of_1 : decode cX6_of 1 = .ok (.iload_n 1, 1) := by decide +kernel
theorem dX6_of_2 : decode cX6_of 2 = .ok (.invokevirtual 98, 3) := by decide +kernel
theorem dX6_of_5 : decode cX6_of 5 = .ok (.ifCond .eq 27, 3) := by decide +kernel
theorem dX6_of_8 : decode cX6_of 8 = .ok (.iload_n 2, 1) := by decide +kernel
theorem dX6_of_9 : decode cX6_of 9 = .ok (.iconst 0, 1) := by decide +kernel
theorem dX6_of_10 : decode cX6_of 10 = .ok (.iconst 3, 1) := by decide +kernel
theorem dX6_of_11 : decode cX6_of 11 = .ok (.invokestatic 81, 3) := by decide +kernel
theorem dX6_of_14 : decode cX6_of 14 = .ok (.ifCond .eq 18, 3) := by decide +kernel
theorem dX6_of_17 : decode cX6_of 17 = .ok (.aload_n 0, 1) := by decide +kernel
theorem dX6_of_18 : decode cX6_of 18 = .ok (.getfield 7, 3) := by decide +kernel
theorem dX6_of_21 : decode cX6_of 21 = .ok (.aload_n 0, 1) := by decide +kernel
theorem dX6_of_22 : decode cX6_of 22 = .ok (.iload_n 1, 1) := by decide +kernel
theorem dX6_of_23 : decode cX6_of 23 = .ok (.invokevirtual 85, 3) := by decide +kernel
theorem dX6_of_26 : decode cX6_of 26 = .ok (.iload_n 2, 1) := by decide +kernel
theorem dX6_of_27 : decode cX6_of 27 = .ok (.iadd, 1) := by decide +kernel
theorem dX6_of_28 : decode cX6_of 28 = .ok (.iaload, 1) := by decide +kernel
theorem dX6_of_29 : decode cX6_of 29 = .ok (.goto 7, 3) := by decide +kernel
theorem dX6_of_32 : decode cX6_of 32 = .ok (.aload_n 0, 1) := by decide +kernel
theorem dX6_of_33 : decode cX6_of 33 = .ok (.invokevirtual 105, 3) := by decide +kernel
theorem dX6_of_36 : decode cX6_of 36 = .ok (.ireturn, 1) := by decide +kernel
set_option maxRecDepth 20000 in
theorem ggX6_error_X6_isError : GoodIn wsX6_error wsX6_isError := goodIn_r _ [5, 6, 7, 4, 8] (by decide +kernel) (by decide +kernel)
set_option maxRecDepth 20000 in
theorem gX6_error_X6_isError : GoodIn wsX6_error (va_wsS RX6 111 yX6_isError wsX6_isError) := goodIn_app (goodIn_of _ (by decide +kernel)) ggX6_error_X6_isError
set_option maxRecDepth 20000 in
theorem ggX6_error_X6_bad : GoodIn wsX6_error wsX6_bad := goodIn_r _ [12, 13, 14, 15, 16, 17, 18, 19, 20, 21, 22, 23, 24, 25, 26, 27, 28, 29, 30, 31, 32, 33, 34] (by decide +kernel) (by decide +kernel)
set_option maxRecDepth 20000 in
theorem gX6_error_X6_bad : GoodIn wsX6_error (wsV RX6 105 RX6 yX6_bad wsX6_bad) := goodIn_app (goodIn_of _ (by decide +kernel)) ggX6_error_X6_bad
theorem dX6_error_0 : decode cX6_error 0 = .ok (.iload_n 1, 1) := by decide +kernel
theorem dX6_error_1 : decode cX6_error 1 = .ok (.invokestatic 111, 3) := by decide +kernel
theorem dX6_error_4 : decode cX6_error 4 = .ok (.ifCond .eq 15, 3) := by decide +kernel
theorem dX6_error_7 : decode cX6_error 7 = .ok (.aload_n 0, 1) := by decide +kernel
theorem dX6_error_8 : decode cX6_error 8 = .ok (.getfield 7, 3) := by decide +kernel
theorem dX6_error_11 : decode cX6_error 11 = .ok (.bipush 33, 2) := by decide +kernel
theorem dX6_error_13 : decode cX6_error 13 = .ok (.iload_n 1, 1) := by decide +kernel
theorem dX6_error_14 : decode cX6_error 14 = .ok (.iadd, 1) := by decide +kernel
theorem dX6_error_15 : decode cX6_error 15 = .ok (.iaload, 1) := by decide +kernel
theorem dX6_error_16 : decode cX6_error 16 = .ok (.goto 7, 3) := by decide +kernel
theorem dX6_error_19 : decode cX6_error 19 = .ok (.aload_n 0, 1) := by decide +kernel
theorem dX6_error_20 : decode cX6_error 20 = .ok (.invokevirtual 105, 3) := by decide +kernel
theorem dX6_error_23 : decode cX6_error 23 = .ok (.ireturn, 1) := by decide +kernel
set_option maxRecDepth 20000 in
theorem ggX6_detOf_X6_by : GoodIn wsX6_detOf wsX6_by := goodIn_r _ [4, 5, 6, 3, 7, 8, 9, 10] (by decide +kernel) (by decide +kernel)
set_option maxRecDepth 20000 in
theorem gX6_detOf_X6_by : GoodIn wsX6_detOf (va_wsS RX6 78 yX6_by wsX6_by) := goodIn_app (goodIn_of _ (by decide +kernel)) ggX6_detOf_X6_by
set_option maxRecDepth 20000 in
theorem ggX6_detOf_X6_less : GoodIn wsX6_detOf wsX6_less := goodIn_r _ [13, 5, 6, 3, 7, 8, 9, 10] (by decide +kernel) (by decide +kernel)
set_option maxRecDepth 20000 in
theorem gX6_detOf_X6_less : GoodIn wsX6_detOf (va_wsS RX6 114 yX6_less wsX6_less) := goodIn_app (goodIn_of _ (by decide +kernel)) ggX6_detOf_X6_less
theorem dX6_detOf_0 : decode cX6_detOf 0 = .ok (.iload_n 0, 1) := by decide +kernel
theorem dX6_detOf_1 : decode cX6_detOf 1 = .ok (.iload_n 3, 1) := by decide +kernel
theorem dX6_detOf_2 : decode cX6_detOf 2 = .ok (.invokestatic 78, 3) := by decide +kernel
theorem dX6_detOf_5 : decode cX6_detOf 5 = .ok (.iload_n 1, 1) := by decide +kernel
theorem dX6_detOf_6 : decode cX6_detOf 6 = .ok (.iload_n 2, 1) := by decide +kernel
theorem dX6_detOf_7 : decode cX6_detOf 7 = .ok (.invokestatic 78, 3) := by decide +kernel
theorem dX6_detOf_10 : decode cX6_detOf 10 = .ok (.invokestatic 114, 3) := by decide +kernel
theorem dX6_detOf_13 : decode cX6_detOf 13 = .ok (.ireturn, 1) := by decide +kernel
set_option maxRecDepth 20000 in
theorem ggX6_belowOf_X6_by : GoodIn wsX6_belowOf wsX6_by := goodIn_r _ [4, 5, 6, 3, 7, 8, 9, 10] (by decide +kernel) (by decide +kernel)
set_option maxRecDepth 20000 in
theorem gX6_belowOf_X6_by : GoodIn wsX6_belowOf (va_wsS RX6 78 yX6_by wsX6_by) := goodIn_app (goodIn_of _ (by decide +kernel)) ggX6_belowOf_X6_by
set_option maxRecDepth 20000 in
theorem ggX6_belowOf_X6_less : GoodIn wsX6_belowOf wsX6_less := goodIn_r _ [13, 5, 6, 3, 7, 8, 9, 10] (by decide +kernel) (by decide +kernel)
set_option maxRecDepth 20000 in
theorem gX6_belowOf_X6_less : GoodIn wsX6_belowOf (va_wsS RX6 114 yX6_less wsX6_less) := goodIn_app (goodIn_of _ (by decide +kernel)) ggX6_belowOf_X6_less
set_option maxRecDepth 20000 in
theorem ggX6_belowOf_X6_plus : GoodIn wsX6_belowOf wsX6_plus := goodIn_r _ [16, 5, 6, 3, 7, 8, 9, 10] (by decide +kernel) (by decide +kernel)
set_option maxRecDepth 20000 in
theorem gX6_belowOf_X6_plus : GoodIn wsX6_belowOf (va_wsS RX6 117 yX6_plus wsX6_plus) := goodIn_app (goodIn_of _ (by decide +kernel)) ggX6_belowOf_X6_plus
theorem dX6_belowOf_0 : decode cX6_belowOf 0 = .ok (.sipush 10007, 3) := by decide +kernel
theorem dX6_belowOf_3 : decode cX6_belowOf 3 = .ok (.iload_n 0, 1) := by decide +kernel
theorem dX6_belowOf_4 : decode cX6_belowOf 4 = .ok (.iload_n 1, 1) := by decide +kernel
theorem dX6_belowOf_5 : decode cX6_belowOf 5 = .ok (.invokestatic 78, 3) := by decide +kernel
theorem dX6_belowOf_8 : decode cX6_belowOf 8 = .ok (.invokestatic 114, 3) := by decide +kernel
theorem dX6_belowOf_11 : decode cX6_belowOf 11 = .ok (.istore 5, 2) := by decide +kernel
theorem dX6_belowOf_13 : decode cX6_belowOf 13 = .ok (.iload 5, 2) := by decide +kernel
theorem dX6_belowOf_15 : decode cX6_belowOf 15 = .ok (.iload_n 2, 1) := by decide +kernel
theorem dX6_belowOf_16 : decode cX6_belowOf 16 = .ok (.iload_n 3, 1) := by decide +kernel
theorem dX6_belowOf_17 : decode cX6_belowOf 17 = .ok (.invokestatic 78, 3) := by decide +kernel
theorem dX6_belowOf_20 : decode cX6_belowOf 20 = .ok (.invokestatic 114, 3) := by decide +kernel
theorem dX6_belowOf_23 : decode cX6_belowOf 23 = .ok (.istore 5, 2) := by decide +kernel
theorem dX6_belowOf_25 : decode cX6_belowOf 25 = .ok (.iload 5, 2) := by decide +kernel
theorem dX6_belowOf_27 : decode cX6_belowOf 27 = .ok (.iload_n 0, 1) := by decide +kernel
theorem dX6_belowOf_28 : decode cX6_belowOf 28 = .ok (.iload_n 2, 1) := by decide +kernel
theorem dX6_belowOf_29 : decode cX6_belowOf 29 = .ok (.invokestatic 78, 3) := by decide +kernel
theorem dX6_belowOf_32 : decode cX6_belowOf 32 = .ok (.iload 4, 2) := by decide +kernel
theorem dX6_belowOf_34 : decode cX6_belowOf 34 = .ok (.invokestatic 78, 3) := by decide +kernel
theorem dX6_belowOf_37 : decode cX6_belowOf 37 = .ok (.invokestatic 117, 3) := by decide +kernel
theorem dX6_belowOf_40 : decode cX6_belowOf 40 = .ok (.ireturn, 1) := by decide +kernel
theorem dX6_err_0 : decode cX6_err 0 = .ok (.aload_n 0, 1) := by decide +kernel
theorem dX6_err_1 : decode cX6_err 1 = .ok (.getfield 7, 3) := by decide +kernel
theorem dX6_err_4 : decode cX6_err 4 = .ok (.bipush 33, 2) := by decide +kernel
theorem dX6_err_6 : decode cX6_err 6 = .ok (.iload_n 1, 1) := by decide +kernel
theorem dX6_err_7 : decode cX6_err 7 = .ok (.iadd, 1) := by decide +kernel
theorem dX6_err_8 : decode cX6_err 8 = .ok (.iaload, 1) := by decide +kernel
theorem dX6_err_9 : decode cX6_err 9 = .ok (.ireturn, 1) := by decide +kernel
set_option maxRecDepth 20000 in
theorem ggX6_told4_X6_err : GoodIn wsX6_told4 wsX6_err := goodIn_r _ [5, 6, 30, 31, 32, 33, 34, 35, 36, 37, 38, 39, 40, 41, 42, 43, 44, 45, 46, 47, 48, 49, 50] (by decide +kernel) (by decide +kernel)
set_option maxRecDepth 20000 in
theorem gX6_told4_X6_err : GoodIn wsX6_told4 (wsV RX6 120 RX6 yX6_err wsX6_err) := goodIn_app (goodIn_of _ (by decide +kernel)) ggX6_told4_X6_err
set_option maxRecDepth 20000 in
theorem ggX6_told4_X6_by : GoodIn wsX6_told4 wsX6_by := goodIn_r _ [9, 10, 11, 4, 12, 13, 14, 15] (by decide +kernel) (by decide +kernel)
set_option maxRecDepth 20000 in
theorem gX6_told4_X6_by : GoodIn wsX6_told4 (va_wsS RX6 78 yX6_by wsX6_by) := goodIn_app (goodIn_of _ (by decide +kernel)) ggX6_told4_X6_by
set_option maxRecDepth 20000 in
theorem ggX6_told4_X6_over : GoodIn wsX6_told4 wsX6_over := goodIn_r _ [19, 20, 21, 22, 4, 23, 24, 25, 26, 10, 11, 12, 13, 14, 15, 7, 8, 9, 30, 31, 32, 33, 34, 35, 36, 37, 38, 39, 40, 41, 42, 43, 44, 45, 46, 47, 48, 49, 50] (by decide +kernel) (by decide +kernel)
set_option maxRecDepth 20000 in
theorem gX6_told4_X6_over : GoodIn wsX6_told4 (wsV RX6 123 RX6 yX6_over wsX6_over) := goodIn_app (goodIn_of _ (by decide +kernel)) ggX6_told4_X6_over
set_option maxRecDepth 20000 in
theorem ggX6_told4_X6_plus : GoodIn wsX6_told4 wsX6_plus := goodIn_r _ [29, 10, 11, 4, 12, 13, 14, 15] (by decide +kernel) (by decide +kernel)
set_option maxRecDepth 20000 in
theorem gX6_told4_X6_plus : GoodIn wsX6_told4 (va_wsS RX6 117 yX6_plus wsX6_plus) := goodIn_app (goodIn_of _ (by decide +kernel)) ggX6_told4_X6_plus
theorem dX6_told4_0 : decode cX6_told4 0 = .ok (.aload_n 0, 1) := by decide +kernel
theorem dX6_told4_1 : decode cX6_told4 1 = .ok (.iload_n 1, 1) := by decide +kernel
theorem dX6_told4_2 : decode cX6_told4 2 = .ok (.invokevirtual 120, 3) := by decide +kernel
theorem dX6_told4_5 : decode cX6_told4 5 = .ok (.aload_n 0, 1) := by decide +kernel
theorem dX6_told4_6 : decode cX6_told4 6 = .ok (.aload_n 0, 1) := by decide +kernel
theorem dX6_told4_7 : decode cX6_told4 7 = .ok (.iload_n 2, 1) := by decide +kernel
theorem dX6_told4_8 : decode cX6_told4 8 = .ok (.invokevirtual 120, 3) := by decide +kernel
theorem dX6_told4_11 : decode cX6_told4 11 = .ok (.iload_n 3, 1) := by decide +kernel
theorem dX6_told4_12 : decode cX6_told4 12 = .ok (.invokestatic 78, 3) := by decide +kernel
theorem dX6_told4_15 : decode cX6_told4 15 = .ok (.iload 4, 2) := by decide +kernel
theorem dX6_told4_17 : decode cX6_told4 17 = .ok (.invokevirtual 123, 3) := by decide +kernel
theorem dX6_told4_20 : decode cX6_told4 20 = .ok (.invokestatic 117, 3) := by decide +kernel
theorem dX6_told4_23 : decode cX6_told4 23 = .ok (.ireturn, 1) := by decide +kernel
set_option maxRecDepth 20000 in
theorem ggX6_tellsOf_X6_detOf : GoodIn wsX6_tellsOf wsX6_detOf := goodIn_r _ [5, 6, 7, 4, 8, 9, 10, 11, 12, 13, 14, 15, 16, 17] (by decide +kernel) (by decide +kernel)
set_option maxRecDepth 20000 in
theorem gX6_tellsOf_X6_detOf : GoodIn wsX6_tellsOf (va_wsS RX6 126 yX6_detOf wsX6_detOf) := goodIn_app (goodIn_of _ (by decide +kernel)) ggX6_tellsOf_X6_detOf
set_option maxRecDepth 20000 in
theorem ggX6_tellsOf_X6_err : GoodIn wsX6_tellsOf wsX6_err := goodIn_r _ [21, 22, 44, 45, 46, 47, 48, 49, 50, 51, 52, 53, 54, 55, 56, 57, 58, 59, 60, 61, 62, 63, 64] (by decide +kernel) (by decide +kernel)
set_option maxRecDepth 20000 in
theorem gX6_tellsOf_X6_err : GoodIn wsX6_tellsOf (wsV RX6 120 RX6 yX6_err wsX6_err) := goodIn_app (goodIn_of _ (by decide +kernel)) ggX6_tellsOf_X6_err
set_option maxRecDepth 20000 in
theorem ggX6_tellsOf_X6_belowOf : GoodIn wsX6_tellsOf wsX6_belowOf := goodIn_r _ [25, 6, 7, 4, 8, 9, 10, 11, 12, 13, 14, 15, 16, 17, 26, 27, 28] (by decide +kernel) (by decide +kernel)
set_option maxRecDepth 20000 in
theorem gX6_tellsOf_X6_belowOf : GoodIn wsX6_tellsOf (va_wsS RX6 129 yX6_belowOf wsX6_belowOf) := goodIn_app (goodIn_of _ (by decide +kernel)) ggX6_tellsOf_X6_belowOf
set_option maxRecDepth 20000 in
theorem ggX6_tellsOf_X6_by : GoodIn wsX6_tellsOf wsX6_by := goodIn_r _ [8, 9, 10, 4, 11, 12, 13, 14] (by decide +kernel) (by decide +kernel)
set_option maxRecDepth 20000 in
theorem gX6_tellsOf_X6_by : GoodIn wsX6_tellsOf (va_wsS RX6 78 yX6_by wsX6_by) := goodIn_app (goodIn_of _ (by decide +kernel)) ggX6_tellsOf_X6_by
set_option maxRecDepth 20000 in
theorem ggX6_tellsOf_X6_less : GoodIn wsX6_tellsOf wsX6_less := goodIn_r _ [17, 9, 10, 4, 11, 12, 13, 14] (by decide +kernel) (by decide +kernel)
set_option maxRecDepth 20000 in
theorem gX6_tellsOf_X6_less : GoodIn wsX6_tellsOf (va_wsS RX6 114 yX6_less wsX6_less) := goodIn_app (goodIn_of _ (by decide +kernel)) ggX6_tellsOf_X6_less
set_option maxRecDepth 20000 in
theorem ggX6_tellsOf_X6_told4 : GoodIn wsX6_tellsOf wsX6_told4 := goodIn_r _ [32, 18, 19, 20, 4, 21, 22, 6, 7, 8, 9, 10, 11, 12, 13, 14, 33, 34, 35, 36, 37, 38, 39, 40, 41, 42, 43, 26, 27, 28, 44, 45, 46, 47, 48, 49, 50, 51, 52, 53, 54, 55, 56, 57, 58, 59, 60, 61, 62, 63, 64] (by decide +kernel) (by decide +kernel)
set_option maxRecDepth 20000 in
theorem gX6_tellsOf_X6_told4 : GoodIn wsX6_tellsOf (wsV RX6 133 RX6 yX6_told4 wsX6_told4) := goodIn_app (goodIn_of _ (by decide +kernel)) ggX6_tellsOf_X6_told4
theorem dX6_tellsOf_0 : decode cX6_tellsOf 0 = .ok (.iload_n 1, 1) := by decide +kernel
theorem dX6_tellsOf_1 : decode cX6_tellsOf 1 = .ok (.iload_n 2, 1) := by decide +kernel
theorem dX6_tellsOf_2 : decode cX6_tellsOf 2 = .ok (.iload_n 3, 1) := by decide +kernel
theorem dX6_tellsOf_3 : decode cX6_tellsOf 3 = .ok (.iload 4, 2) := by decide +kernel
theorem dX6_tellsOf_5 : decode cX6_tellsOf 5 = .ok (.invokestatic 126, 3) := by decide +kernel
theorem dX6_tellsOf_8 : decode cX6_tellsOf 8 = .ok (.istore 5, 2) := by decide +kernel
theorem dX6_tellsOf_10 : decode cX6_tellsOf 10 = .ok (.aload_n 0, 1) := by decide +kernel
theorem dX6_tellsOf_11 : decode cX6_tellsOf 11 = .ok (.iconst 1, 1) := by decide +kernel
theorem dX6_tellsOf_12 : decode cX6_tellsOf 12 = .ok (.invokevirtual 120, 3) := by decide +kernel
theorem dX6_tellsOf_15 : decode cX6_tellsOf 15 = .ok (.iload_n 1, 1) := by decide +kernel
theorem dX6_tellsOf_16 : decode cX6_tellsOf 16 = .ok (.aload_n 0, 1) := by decide +kernel
theorem dX6_tellsOf_17 : decode cX6_tellsOf 17 = .ok (.iconst 4, 1) := by decide +kernel
theorem dX6_tellsOf_18 : decode cX6_tellsOf 18 = .ok (.invokevirtual 120, 3) := by decide +kernel
theorem dX6_tellsOf_21 : decode cX6_tellsOf 21 = .ok (.iload 4, 2) := by decide +kernel
theorem dX6_tellsOf_23 : decode cX6_tellsOf 23 = .ok (.iload 5, 2) := by decide +kernel
theorem dX6_tellsOf_25 : decode cX6_tellsOf 25 = .ok (.invokestatic 129, 3) := by decide +kernel
theorem dX6_tellsOf_28 : decode cX6_tellsOf 28 = .ok (.istore 6, 2) := by decide +kernel
theorem dX6_tellsOf_30 : decode cX6_tellsOf 30 = .ok (.aload_n 0, 1) := by decide +kernel
theorem dX6_tellsOf_31 : decode cX6_tellsOf 31 = .ok (.bipush 10, 2) := by decide +kernel
theorem dX6_tellsOf_33 : decode cX6_tellsOf 33 = .ok (.invokevirtual 120, 3) := by decide +kernel
theorem dX6_tellsOf_36 : decode cX6_tellsOf 36 = .ok (.iload_n 1, 1) := by decide +kernel
theorem dX6_tellsOf_37 : decode cX6_tellsOf 37 = .ok (.aload_n 0, 1) := by decide +kernel
theorem dX6_tellsOf_38 : decode cX6_tellsOf 38 = .ok (.bipush 7, 2) := by decide +kernel
theorem dX6_tellsOf_40 : decode cX6_tellsOf 40 = .ok (.invokevirtual 120, 3) := by decide +kernel
theorem dX6_tellsOf_43 : decode cX6_tellsOf 43 = .ok (.iload 4, 2) := by decide +kernel
theorem dX6_tellsOf_45 : decode cX6_tellsOf 45 = .ok (.iload 5, 2) := by decide +kernel
theorem dX6_tellsOf_47 : decode cX6_tellsOf 47 = .ok (.invokestatic 129, 3) := by decide +kernel
theorem dX6_tellsOf_50 : decode cX6_tellsOf 50 = .ok (.istore 7, 2) := by decide +kernel
theorem dX6_tellsOf_52 : decode cX6_tellsOf 52 = .ok (.aload_n 0, 1) := by decide +kernel
theorem dX6_tellsOf_53 : decode cX6_tellsOf 53 = .ok (.getfield 25, 3) := by decide +kernel
theorem dX6_tellsOf_56 : decode cX6_tellsOf 56 = .ok (.iconst 0, 1) := by decide +kernel
theorem dX6_tellsOf_57 : decode cX6_tellsOf 57 = .ok (.aload_n 0, 1) := by decide +kernel
theorem dX6_tellsOf_58 : decode cX6_tellsOf 58 = .ok (.iconst 0, 1) := by decide +kernel
theorem dX6_tellsOf_59 : decode cX6_tellsOf 59 = .ok (.iconst 2, 1) := by decide +kernel
theorem dX6_tellsOf_60 : decode cX6_tellsOf 60 = .ok (.iload_n 1, 1) := by decide +kernel
theorem dX6_tellsOf_61 : decode cX6_tellsOf 61 = .ok (.aload_n 0, 1) := by decide +kernel
theorem dX6_tellsOf_62 : decode cX6_tellsOf 62 = .ok (.iconst 4, 1) := by decide +kernel
theorem dX6_tellsOf_63 : decode cX6_tellsOf 63 = .ok (.invokevirtual 120, 3) := by decide +kernel
theorem dX6_tellsOf_66 : decode cX6_tellsOf 66 = .ok (.iload 5, 2) := by decide +kernel
theorem dX6_tellsOf_68 : decode cX6_tellsOf 68 = .ok (.invokestatic 78, 3) := by decide +kernel
theorem dX6_tellsOf_71 : decode cX6_tellsOf 71 = .ok (.invokestatic 114, 3) := by decide +kernel
theorem dX6_tellsOf_74 : decode cX6_tellsOf 74 = .ok (.iload 6, 2) := by decide +kernel
theorem dX6_tellsOf_76 : decode cX6_tellsOf 76 = .ok (.invokevirtual 133, 3) := by decide +kernel
theorem dX6_tellsOf_79 : decode cX6_tellsOf 79 = .ok (.iastore, 1) := by decide +kernel
theorem dX6_tellsOf_80 : decode cX6_tellsOf 80 = .ok (.aload_n 0, 1) := by decide +kernel
theorem dX6_tellsOf_81 : decode cX6_tellsOf 81 = .ok (.getfield 25, 3) := by decide +kernel
theorem dX6_tellsOf_84 : decode cX6_tellsOf 84 = .ok (.iconst 1, 1) := by decide +kernel
theorem dX6_tellsOf_85 : decode cX6_tellsOf 85 = .ok (.aload_n 0, 1) := by decide +kernel
theorem dX6_tellsOf_86 : decode cX6_tellsOf 86 = .ok (.bipush 9, 2) := by decide +kernel
theorem dX6_tellsOf_88 : decode cX6_tellsOf 88 = .ok (.bipush 11, 2) := by decide +kernel
theorem dX6_tellsOf_90 : decode cX6_tellsOf 90 = .ok (.iload_n 2, 1) := by decide +kernel
theorem dX6_tellsOf_91 : decode cX6_tellsOf 91 = .ok (.iload 7, 2) := by decide +kernel
theorem dX6_tellsOf_93 : decode cX6_tellsOf 93 = .ok (.invokevirtual 133, 3) := by decide +kernel
theorem dX6_tellsOf_96 : decode cX6_tellsOf 96 = .ok (.iastore, 1) := by decide +kernel
theorem dX6_tellsOf_97 : decode cX6_tellsOf 97 = .ok (.aload_n 0, 1) := by decide +kernel
theorem dX6_tellsOf_98 : decode cX6_tellsOf 98 = .ok (.getfield 25, 3) := by decide +kernel
theorem dX6_tellsOf_101 : decode cX6_tellsOf 101 = .ok (.iconst 2, 1) := by decide +kernel
theorem dX6_tellsOf_102 : decode cX6_tellsOf 102 = .ok (.aload_n 0, 1) := by decide +kernel
theorem dX6_tellsOf_103 : decode cX6_tellsOf 103 = .ok (.iconst 3, 1) := by decide +kernel
theorem dX6_tellsOf_104 : decode cX6_tellsOf 104 = .ok (.iconst 5, 1) := by decide +kernel
theorem dX6_tellsOf_105 : decode cX6_tellsOf 105 = .ok (.iload_n 3, 1) := by decide +kernel
theorem dX6_tellsOf_106 : decode cX6_tellsOf 106 = .ok (.iload 6, 2) := by decide +kernel
theorem dX6_tellsOf_108 : decode cX6_tellsOf 108 = .ok (.invokevirtual 133, 3) := by decide +kernel
theorem dX6_tellsOf_111 : decode cX6_tellsOf 111 = .ok (.iastore, 1) := by decide +kernel
theorem dX6_tellsOf_112 : decode cX6_tellsOf 112 = .ok (.aload_n 0, 1) := by decide +kernel
theorem dX6_tellsOf_113 : decode cX6_tellsOf 113 = .ok (.getfield 25, 3) := by decide +kernel
theorem dX6_tellsOf_116 : decode cX6_tellsOf 116 = .ok (.iconst 3, 1) := by decide +kernel
theorem dX6_tellsOf_117 : decode cX6_tellsOf 117 = .ok (.aload_n 0, 1) := by decide +kernel
theorem dX6_tellsOf_118 : decode cX6_tellsOf 118 = .ok (.bipush 6, 2) := by decide +kernel
theorem dX6_tellsOf_120 : decode cX6_tellsOf 120 = .ok (.bipush 8, 2) := by decide +kernel
theorem dX6_tellsOf_122 : decode cX6_tellsOf 122 = .ok (.iload 4, 2) := by decide +kernel
theorem dX6_tellsOf_124 : decode cX6_tellsOf 124 = .ok (.aload_n 0, 1) := by decide +kernel
theorem dX6_tellsOf_125 : decode cX6_tellsOf 125 = .ok (.bipush 10, 2) := by decide +kernel
theorem dX6_tellsOf_127 : decode cX6_tellsOf 127 = .ok (.invokevirtual 120, 3) := by decide +kernel
theorem dX6_tellsOf_130 : decode cX6_tellsOf 130 = .ok (.iload 5, 2) := by decide +kernel
theorem dX6_tellsOf_132 : decode cX6_tellsOf 132 = .ok (.invokestatic 78, 3) := by decide +kernel
theorem dX6_tellsOf_135 : decode cX6_tellsOf 135 = .ok (.invokestatic 114, 3) := by decide +kernel
theorem dX6_tellsOf_138 : decode cX6_tellsOf 138 = .ok (.iload 7, 2) := by decide +kernel
theorem dX6_tellsOf_140 : decode cX6_tellsOf 140 = .ok (.invokevirtual 133, 3) := by decide +kernel
theorem dX6_tellsOf_143 : decode cX6_tellsOf 143 = .ok (.iastore, 1) := by decide +kernel
theorem dX6_tellsOf_144 : decode cX6_tellsOf 144 = .ok (.return_, 1) := by decide +kernel
set_option maxRecDepth 20000 in
theorem ggX6_tellsBox_X6_boxAt : GoodIn wsX6_tellsBox wsX6_boxAt := goodIn_r _ [6] (by decide +kernel) (by decide +kernel)
set_option maxRecDepth 20000 in
theorem gX6_tellsBox_X6_boxAt : GoodIn wsX6_tellsBox (wsV RX6 85 RX6 yX6_boxAt wsX6_boxAt) := goodIn_app (goodIn_of _ (by decide +kernel)) ggX6_tellsBox_X6_boxAt
set_option maxRecDepth 20000 in
theorem ggX6_tellsBox_X6_tellsOf : GoodIn wsX6_tellsBox wsX6_tellsOf := goodIn_r _ [10, 11, 12, 13, 5, 14, 15, 16, 17, 18, 19, 20, 21, 22, 23, 24, 25, 26, 27, 28, 29, 30, 1, 31, 32, 33, 34, 35, 36, 37, 38, 39, 40, 41, 42, 43, 44, 45, 46, 47, 48, 49, 50, 51, 52, 53, 54, 55, 56, 57, 58, 59, 60, 61, 62, 63, 64, 65, 66, 67, 68, 69, 70, 71, 72] (by decide +kernel) (by decide +kernel)
set_option maxRecDepth 20000 in
theorem gX6_tellsBox_X6_tellsOf : GoodIn wsX6_tellsBox (wsV RX6 136 RX6 yX6_tellsOf wsX6_tellsOf) := goodIn_app (goodIn_of _ (by decide +kernel)) ggX6_tellsBox_X6_tellsOf
theorem dX6_tellsBox_0 : decode cX6_tellsBox 0 = .ok (.aload_n 0, 1) := by decide +kernel
theorem dX6_tellsBox_1 : decode cX6_tellsBox 1 = .ok (.iload_n 1, 1) := by decide +kernel
theorem dX6_tellsBox_2 : decode cX6_tellsBox 2 = .ok (.invokevirtual 85, 3) := by decide +kernel
theorem dX6_tellsBox_5 : decode cX6_tellsBox 5 = .ok (.istore_n 2, 1) := by decide +kernel
theorem dX6_tellsBox_6 : decode cX6_tellsBox 6 = .ok (.aload_n 0, 1) := by decide +kernel
theorem dX6_tellsBox_7 : decode cX6_tellsBox 7 = .ok (.aload_n 0, 1) := by decide +kernel
theorem dX6_tellsBox_8 : decode cX6_tellsBox 8 = .ok (.getfield 7, 3) := by decide +kernel
theorem dX6_tellsBox_11 : decode cX6_tellsBox 11 = .ok (.iload_n 2, 1) := by decide +kernel
theorem dX6_tellsBox_12 : decode cX6_tellsBox 12 = .ok (.iaload, 1) := by decide +kernel
theorem dX6_tellsBox_13 : decode cX6_tellsBox 13 = .ok (.aload_n 0, 1) := by decide +kernel
theorem dX6_tellsBox_14 : decode cX6_tellsBox 14 = .ok (.getfield 7, 3) := by decide +kernel
theorem dX6_tellsBox_17 : decode cX6_tellsBox 17 = .ok (.iload_n 2, 1) := by decide +kernel
theorem dX6_tellsBox_18 : decode cX6_tellsBox 18 = .ok (.iconst 1, 1) := by decide +kernel
theorem dX6_tellsBox_19 : decode cX6_tellsBox 19 = .ok (.iadd, 1) := by decide +kernel
theorem dX6_tellsBox_20 : decode cX6_tellsBox 20 = .ok (.iaload, 1) := by decide +kernel
theorem dX6_tellsBox_21 : decode cX6_tellsBox 21 = .ok (.aload_n 0, 1) := by decide +kernel
theorem dX6_tellsBox_22 : decode cX6_tellsBox 22 = .ok (.getfield 7, 3) := by decide +kernel
theorem dX6_tellsBox_25 : decode cX6_tellsBox 25 = .ok (.iload_n 2, 1) := by decide +kernel
theorem dX6_tellsBox_26 : decode cX6_tellsBox 26 = .ok (.iconst 2, 1) := by decide +kernel
theorem dX6_tellsBox_27 : decode cX6_tellsBox 27 = .ok (.iadd, 1) := by decide +kernel
theorem dX6_tellsBox_28 : decode cX6_tellsBox 28 = .ok (.iaload, 1) := by decide +kernel
theorem dX6_tellsBox_29 : decode cX6_tellsBox 29 = .ok (.aload_n 0, 1) := by decide +kernel
theorem dX6_tellsBox_30 : decode cX6_tellsBox 30 = .ok (.getfield 7, 3) := by decide +kernel
theorem dX6_tellsBox_33 : decode cX6_tellsBox 33 = .ok (.iload_n 2, 1) := by decide +kernel
theorem dX6_tellsBox_34 : decode cX6_tellsBox 34 = .ok (.iconst 3, 1) := by decide +kernel
theorem dX6_tellsBox_35 : decode cX6_tellsBox 35 = .ok (.iadd, 1) := by decide +kernel
theorem dX6_tellsBox_36 : decode cX6_tellsBox 36 = .ok (.iaload, 1) := by decide +kernel
theorem dX6_tellsBox_37 : decode cX6_tellsBox 37 = .ok (.invokevirtual 136, 3) := by decide +kernel
theorem dX6_tellsBox_40 : decode cX6_tellsBox 40 = .ok (.return_, 1) := by decide +kernel
set_option maxRecDepth 20000 in
theorem ggX6_told_X6_isBox : GoodIn wsX6_told wsX6_isBox := goodIn_r _ [7, 8, 9, 10, 6, 11, 72, 73, 74, 75, 76, 77, 78, 79, 80, 81, 82, 83, 84, 85, 86, 87, 88, 89, 90, 91, 92] (by decide +kernel) (by decide +kernel)
set_option maxRecDepth 20000 in
theorem gX6_told_X6_isBox : GoodIn wsX6_told (wsV RX6 98 RX6 yX6_isBox wsX6_isBox) := goodIn_app (goodIn_of _ (by decide +kernel)) ggX6_told_X6_isBox
set_option maxRecDepth 20000 in
theorem ggX6_told_X6_in : GoodIn wsX6_told wsX6_in := goodIn_r _ [11] (by decide +kernel) (by decide +kernel)
set_option maxRecDepth 20000 in
theorem gX6_told_X6_in : GoodIn wsX6_told (va_wsS RX6 81 yX6_in wsX6_in) := goodIn_app (goodIn_of _ (by decide +kernel)) ggX6_told_X6_in
set_option maxRecDepth 20000 in
theorem ggX6_told_X6_bad : GoodIn wsX6_told wsX6_bad := goodIn_r _ [15, 16, 72, 73, 74, 75, 76, 77, 78, 79, 80, 81, 82, 83, 84, 85, 86, 87, 88, 89, 90, 91, 92] (by decide +kernel) (by decide +kernel)
set_option maxRecDepth 20000 in
theorem gX6_told_X6_bad : GoodIn wsX6_told (wsV RX6 105 RX6 yX6_bad wsX6_bad) := goodIn_app (goodIn_of _ (by decide +kernel)) ggX6_told_X6_bad
set_option maxRecDepth 20000 in
theorem ggX6_told_X6_tellsBox : GoodIn wsX6_told wsX6_tellsBox := goodIn_r _ [20, 8, 21, 22, 23, 6, 24, 25, 26, 27, 28, 2, 29, 30, 31, 32, 33, 34, 35, 36, 37, 38, 39, 40, 41, 42, 43, 44, 45, 46, 47, 48, 49, 50, 51, 52, 53, 54, 55, 56, 57, 58, 59, 60, 61, 1, 62, 63, 64, 65, 66, 67, 72, 73, 74, 75, 76, 77, 78, 79, 80, 81, 82, 83, 84, 85, 86, 87, 88, 89, 90, 91, 92] (by decide +kernel) (by decide +kernel)
set_option maxRecDepth 20000 in
theorem gX6_told_X6_tellsBox : GoodIn wsX6_told (wsV RX6 140 RX6 yX6_tellsBox wsX6_tellsBox) := goodIn_app (goodIn_of _ (by decide +kernel)) ggX6_told_X6_tellsBox
set_option maxRecDepth 20000 in
theorem ggX6_told_X6_no : GoodIn wsX6_told wsX6_no := goodIn_r _ [71, 16, 72, 73, 74, 75, 76, 77, 78, 79, 80, 81, 82, 83, 84, 85, 86, 87, 88, 89, 90, 91, 92] (by decide +kernel) (by decide +kernel)
set_option maxRecDepth 20000 in
theorem gX6_told_X6_no : GoodIn wsX6_told (wsV RX6 56 RX6 yX6_no wsX6_no) := goodIn_app (goodIn_of _ (by decide +kernel)) ggX6_told_X6_no
theorem dX6_told_0 : decode cX6_told 0 = .ok (.aload_n 0, 1) := by decide +kernel
theorem dX6_told_1 : decode cX6_told 1 = .ok (.iload_n 1, 1) := by decide +kernel
theorem dX6_told_2 : decode cX6_told 2 = .ok (.invokevirtual 98, 3) := by decide +kernel
theorem dX6_told_5 : decode cX6_told 5 = .ok (.ifCond .eq 12, 3) := by decide +kernel
theorem dX6_told_8 : decode cX6_told 8 = .ok (.iload_n 2, 1) := by decide +kernel
theorem dX6_told_9 : decode cX6_told 9 = .ok (.iconst 0, 1) := by decide +kernel
theorem dX6_told_10 : decode cX6_told 10 = .ok (.iconst 3, 1) := by decide +kernel
theorem dX6_told_11 : decode cX6_told 11 = .ok (.invokestatic 81, 3) := by decide +kernel
theorem dX6_told_14 : decode cX6_told 14 = .ok (.ifCond .ne 8, 3) := by decide +kernel
theorem dX6_told_17 : decode cX6_told 17 = .ok (.aload_n 0, 1) := by decide +kernel
theorem dX6_told_18 : decode cX6_told 18 = .ok (.invokevirtual 105, 3) := by decide +kernel
theorem dX6_told_21 : decode cX6_told 21 = .ok (.ireturn, 1) := by decide +kernel
theorem dX6_told_22 : decode cX6_told 22 = .ok (.aload_n 0, 1) := by decide +kernel
theorem dX6_told_23 : decode cX6_told 23 = .ok (.iconst 0, 1) := by decide +kernel
theorem dX6_told_24 : decode cX6_told 24 = .ok (.putfield 68, 3) := by decide +kernel
theorem dX6_told_27 : decode cX6_told 27 = .ok (.aload_n 0, 1) := by decide +kernel
theorem dX6_told_28 : decode cX6_told 28 = .ok (.iload_n 1, 1) := by decide +kernel
theorem dX6_told_29 : decode cX6_told 29 = .ok (.invokevirtual 140, 3) := by decide +kernel
theorem dX6_told_32 : decode cX6_told 32 = .ok (.aload_n 0, 1) := by decide +kernel
theorem dX6_told_33 : decode cX6_told 33 = .ok (.getfield 68, 3) := by decide +kernel
theorem dX6_told_36 : decode cX6_told 36 = .ok (.ifCond .eq 10, 3) := by decide +kernel
theorem dX6_told_39 : decode cX6_told 39 = .ok (.aload_n 0, 1) := by decide +kernel
theorem dX6_told_40 : decode cX6_told 40 = .ok (.invokevirtual 56, 3) := by decide +kernel
theorem dX6_told_43 : decode cX6_told 43 = .ok (.goto 9, 3) := by decide +kernel
theorem dX6_told_46 : decode cX6_told 46 = .ok (.aload_n 0, 1) := by decide +kernel
theorem dX6_told_47 : decode cX6_told 47 = .ok (.getfield 25, 3) := by decide +kernel
theorem dX6_told_50 : decode cX6_told 50 = .ok (.iload_n 2, 1) := by decide +kernel
theorem dX6_told_51 : decode cX6_told 51 = .ok (.iaload, 1) := by decide +kernel
theorem dX6_told_52 : decode cX6_told 52 = .ok (.ireturn, 1) := by decide +kernel
set_option maxRecDepth 20000 in
theorem ggX6_learnsSide_X6_plus : GoodIn wsX6_learnsSide wsX6_plus := goodIn_r _ [5, 6, 7, 4, 8, 9, 10, 11] (by decide +kernel) (by decide +kernel)
set_option maxRecDepth 20000 in
theorem gX6_learnsSide_X6_plus : GoodIn wsX6_learnsSide (va_wsS RX6 117 yX6_plus wsX6_plus) := goodIn_app (goodIn_of _ (by decide +kernel)) ggX6_learnsSide_X6_plus
set_option maxRecDepth 20000 in
theorem ggX6_learnsSide_X6_less : GoodIn wsX6_learnsSide wsX6_less := goodIn_r _ [14, 6, 7, 4, 8, 9, 10, 11] (by decide +kernel) (by decide +kernel)
set_option maxRecDepth 20000 in
theorem gX6_learnsSide_X6_less : GoodIn wsX6_learnsSide (va_wsS RX6 114 yX6_less wsX6_less) := goodIn_app (goodIn_of _ (by decide +kernel)) ggX6_learnsSide_X6_less
set_option maxRecDepth 20000 in
theorem ggX6_learnsSide_X6_over : GoodIn wsX6_learnsSide wsX6_over := goodIn_r _ [18, 19, 20, 21, 4, 22, 23, 24, 25, 6, 7, 8, 9, 10, 11, 26, 27, 28, 29, 30, 31, 32, 33, 34, 35, 36, 37, 38, 39, 40, 41, 42, 43, 44, 45, 46, 47, 48, 49] (by decide +kernel) (by decide +kernel)
set_option maxRecDepth 20000 in
theorem gX6_learnsSide_X6_over : GoodIn wsX6_learnsSide (wsV RX6 123 RX6 yX6_over wsX6_over) := goodIn_app (goodIn_of _ (by decide +kernel)) ggX6_learnsSide_X6_over
set_option maxRecDepth 20000 in
theorem ggX6_learnsSide_X6_by : GoodIn wsX6_learnsSide wsX6_by := goodIn_r _ [28, 6, 7, 4, 8, 9, 10, 11] (by decide +kernel) (by decide +kernel)
set_option maxRecDepth 20000 in
theorem gX6_learnsSide_X6_by : GoodIn wsX6_learnsSide (va_wsS RX6 78 yX6_by wsX6_by) := goodIn_app (goodIn_of _ (by decide +kernel)) ggX6_learnsSide_X6_by
theorem dX6_learnsSide_0 : decode cX6_learnsSide 0 = .ok (.aload_n 0, 1) := by decide +kernel
theorem dX6_learnsSide_1 : decode cX6_learnsSide 1 = .ok (.getfield 28, 3) := by decide +kernel
theorem dX6_learnsSide_4 : decode cX6_learnsSide 4 = .ok (.iload_n 1, 1) := by decide +kernel
theorem dX6_learnsSide_5 : decode cX6_learnsSide 5 = .ok (.aload_n 0, 1) := by decide +kernel
theorem dX6_learnsSide_6 : decode cX6_learnsSide 6 = .ok (.iload_n 2, 1) := by decide +kernel
theorem dX6_learnsSide_7 : decode cX6_learnsSide 7 = .ok (.iload_n 3, 1) := by decide +kernel
theorem dX6_learnsSide_8 : decode cX6_learnsSide 8 = .ok (.invokestatic 117, 3) := by decide +kernel
theorem dX6_learnsSide_11 : decode cX6_learnsSide 11 = .ok (.iload_n 2, 1) := by decide +kernel
theorem dX6_learnsSide_12 : decode cX6_learnsSide 12 = .ok (.iload_n 3, 1) := by decide +kernel
theorem dX6_learnsSide_13 : decode cX6_learnsSide 13 = .ok (.invokestatic 114, 3) := by decide +kernel
theorem dX6_learnsSide_16 : decode cX6_learnsSide 16 = .ok (.invokevirtual 123, 3) := by decide +kernel
theorem dX6_learnsSide_19 : decode cX6_learnsSide 19 = .ok (.iastore, 1) := by decide +kernel
theorem dX6_learnsSide_20 : decode cX6_learnsSide 20 = .ok (.aload_n 0, 1) := by decide +kernel
theorem dX6_learnsSide_21 : decode cX6_learnsSide 21 = .ok (.getfield 28, 3) := by decide +kernel
theorem dX6_learnsSide_24 : decode cX6_learnsSide 24 = .ok (.iload_n 1, 1) := by decide +kernel
theorem dX6_learnsSide_25 : decode cX6_learnsSide 25 = .ok (.iconst 1, 1) := by decide +kernel
theorem dX6_learnsSide_26 : decode cX6_learnsSide 26 = .ok (.iadd, 1) := by decide +kernel
theorem dX6_learnsSide_27 : decode cX6_learnsSide 27 = .ok (.iload_n 2, 1) := by decide +kernel
theorem dX6_learnsSide_28 : decode cX6_learnsSide 28 = .ok (.sipush 10007, 3) := by decide +kernel
theorem dX6_learnsSide_31 : decode cX6_learnsSide 31 = .ok (.aload_n 0, 1) := by decide +kernel
theorem dX6_learnsSide_32 : decode cX6_learnsSide 32 = .ok (.getfield 28, 3) := by decide +kernel
theorem dX6_learnsSide_35 : decode cX6_learnsSide 35 = .ok (.iload_n 1, 1) := by decide +kernel
theorem dX6_learnsSide_36 : decode cX6_learnsSide 36 = .ok (.iaload, 1) := by decide +kernel
theorem dX6_learnsSide_37 : decode cX6_learnsSide 37 = .ok (.invokestatic 114, 3) := by decide +kernel
theorem dX6_learnsSide_40 : decode cX6_learnsSide 40 = .ok (.invokestatic 78, 3) := by decide +kernel
theorem dX6_learnsSide_43 : decode cX6_learnsSide 43 = .ok (.iastore, 1) := by decide +kernel
theorem dX6_learnsSide_44 : decode cX6_learnsSide 44 = .ok (.return_, 1) := by decide +kernel
set_option maxRecDepth 20000 in
theorem ggX6_learnsThrough_X6_less : GoodIn wsX6_learnsThrough wsX6_less := goodIn_r _ [5, 6, 7, 4, 8, 9, 10, 11] (by decide +kernel) (by decide +kernel)
set_option maxRecDepth 20000 in
theorem gX6_learnsThrough_X6_less : GoodIn wsX6_learnsThrough (va_wsS RX6 114 yX6_less wsX6_less) := goodIn_app (goodIn_of _ (by decide +kernel)) ggX6_learnsThrough_X6_less
set_option maxRecDepth 20000 in
theorem ggX6_learnsThrough_X6_by : GoodIn wsX6_learnsThrough wsX6_by := goodIn_r _ [14, 6, 7, 4, 8, 9, 10, 11] (by decide +kernel) (by decide +kernel)
set_option maxRecDepth 20000 in
theorem gX6_learnsThrough_X6_by : GoodIn wsX6_learnsThrough (va_wsS RX6 78 yX6_by wsX6_by) := goodIn_app (goodIn_of _ (by decide +kernel)) ggX6_learnsThrough_X6_by
set_option maxRecDepth 20000 in
theorem ggX6_learnsThrough_X6_plus : GoodIn wsX6_learnsThrough wsX6_plus := goodIn_r _ [17, 6, 7, 4, 8, 9, 10, 11] (by decide +kernel) (by decide +kernel)
set_option maxRecDepth 20000 in
theorem gX6_learnsThrough_X6_plus : GoodIn wsX6_learnsThrough (va_wsS RX6 117 yX6_plus wsX6_plus) := goodIn_app (goodIn_of _ (by decide +kernel)) ggX6_learnsThrough_X6_plus
set_option maxRecDepth 20000 in
theorem ggX6_learnsThrough_X6_over : GoodIn wsX6_learnsThrough wsX6_over := goodIn_r _ [21, 22, 23, 24, 4, 25, 26, 27, 28, 6, 7, 8, 9, 10, 11, 12, 13, 14, 29, 30, 31, 32, 33, 34, 35, 36, 37, 38, 39, 40, 41, 42, 43, 44, 45, 46, 47, 48, 49] (by decide +kernel) (by decide +kernel)
set_option maxRecDepth 20000 in
theorem gX6_learnsThrough_X6_over : GoodIn wsX6_learnsThrough (wsV RX6 123 RX6 yX6_over wsX6_over) := goodIn_app (goodIn_of _ (by decide +kernel)) ggX6_learnsThrough_X6_over
theorem dX6_learnsThrough_0 : decode cX6_learnsThrough 0 = .ok (.iload_n 1, 1) := by decide +kernel
theorem dX6_learnsThrough_1 : decode cX6_learnsThrough 1 = .ok (.aload_n 0, 1) := by decide +kernel
theorem dX6_learnsThrough_2 : decode cX6_learnsThrough 2 = .ok (.getfield 28, 3) := by decide +kernel
theorem dX6_learnsThrough_5 : decode cX6_learnsThrough 5 = .ok (.iload_n 2, 1) := by decide +kernel
theorem dX6_learnsThrough_6 : decode cX6_learnsThrough 6 = .ok (.iconst 1, 1) := by decide +kernel
theorem dX6_learnsThrough_7 : decode cX6_learnsThrough 7 = .ok (.isub, 1) := by decide +kernel
theorem dX6_learnsThrough_8 : decode cX6_learnsThrough 8 = .ok (.iaload, 1) := by decide +kernel
theorem dX6_learnsThrough_9 : decode cX6_learnsThrough 9 = .ok (.invokestatic 114, 3) := by decide +kernel
theorem dX6_learnsThrough_12 : decode cX6_learnsThrough 12 = .ok (.istore 5, 2) := by decide +kernel
theorem dX6_learnsThrough_14 : decode cX6_learnsThrough 14 = .ok (.iload_n 2, 1) := by decide +kernel
theorem dX6_learnsThrough_15 : decode cX6_learnsThrough 15 = .ok (.iconst 1, 1) := by decide +kernel
theorem dX6_learnsThrough_16 : decode cX6_learnsThrough 16 = .ok (.if_icmp .ne 7, 3) := by decide +kernel
theorem dX6_learnsThrough_19 : decode cX6_learnsThrough 19 = .ok (.iconst 4, 1) := by decide +kernel
theorem dX6_learnsThrough_20 : decode cX6_learnsThrough 20 = .ok (.goto 5, 3) := by decide +kernel
theorem dX6_learnsThrough_23 : decode cX6_learnsThrough 23 = .ok (.bipush 10, 2) := by decide +kernel
theorem dX6_learnsThrough_25 : decode cX6_learnsThrough 25 = .ok (.istore 6, 2) := by decide +kernel
theorem dX6_learnsThrough_27 : decode cX6_learnsThrough 27 = .ok (.aload_n 0, 1) := by decide +kernel
theorem dX6_learnsThrough_28 : decode cX6_learnsThrough 28 = .ok (.getfield 28, 3) := by decide +kernel
theorem dX6_learnsThrough_31 : decode cX6_learnsThrough 31 = .ok (.iload 6, 2) := by decide +kernel
theorem dX6_learnsThrough_33 : decode cX6_learnsThrough 33 = .ok (.aload_n 0, 1) := by decide +kernel
theorem dX6_learnsThrough_34 : decode cX6_learnsThrough 34 = .ok (.iload 5, 2) := by decide +kernel
theorem dX6_learnsThrough_36 : decode cX6_learnsThrough 36 = .ok (.aload_n 0, 1) := by decide +kernel
theorem dX6_learnsThrough_37 : decode cX6_learnsThrough 37 = .ok (.getfield 28, 3) := by decide +kernel
theorem dX6_learnsThrough_40 : decode cX6_learnsThrough 40 = .ok (.iload_n 2, 1) := by decide +kernel
theorem dX6_learnsThrough_41 : decode cX6_learnsThrough 41 = .ok (.iconst 1, 1) := by decide +kernel
theorem dX6_learnsThrough_42 : decode cX6_learnsThrough 42 = .ok (.iadd, 1) := by decide +kernel
theorem dX6_learnsThrough_43 : decode cX6_learnsThrough 43 = .ok (.iaload, 1) := by decide +kernel
theorem dX6_learnsThrough_44 : decode cX6_learnsThrough 44 = .ok (.iload 5, 2) := by decide +kernel
theorem dX6_learnsThrough_46 : decode cX6_learnsThrough 46 = .ok (.aload_n 0, 1) := by decide +kernel
theorem dX6_learnsThrough_47 : decode cX6_learnsThrough 47 = .ok (.getfield 28, 3) := by decide +kernel
theorem dX6_learnsThrough_50 : decode cX6_learnsThrough 50 = .ok (.iload_n 2, 1) := by decide +kernel
theorem dX6_learnsThrough_51 : decode cX6_learnsThrough 51 = .ok (.iaload, 1) := by decide +kernel
theorem dX6_learnsThrough_52 : decode cX6_learnsThrough 52 = .ok (.invokestatic 78, 3) := by decide +kernel
theorem dX6_learnsThrough_55 : decode cX6_learnsThrough 55 = .ok (.invokestatic 117, 3) := by decide +kernel
theorem dX6_learnsThrough_58 : decode cX6_learnsThrough 58 = .ok (.invokevirtual 123, 3) := by decide +kernel
theorem dX6_learnsThrough_61 : decode cX6_learnsThrough 61 = .ok (.iastore, 1) := by decide +kernel
theorem dX6_learnsThrough_62 : decode cX6_learnsThrough 62 = .ok (.aload_n 0, 1) := by decide +kernel
theorem dX6_learnsThrough_63 : decode cX6_learnsThrough 63 = .ok (.getfield 28, 3) := by decide +kernel
theorem dX6_learnsThrough_66 : decode cX6_learnsThrough 66 = .ok (.iload 6, 2) := by decide +kernel
theorem dX6_learnsThrough_68 : decode cX6_learnsThrough 68 = .ok (.iconst 1, 1) := by decide +kernel
theorem dX6_learnsThrough_69 : decode cX6_learnsThrough 69 = .ok (.iadd, 1) := by decide +kernel
theorem dX6_learnsThrough_70 : decode cX6_learnsThrough 70 = .ok (.iload_n 3, 1) := by decide +kernel
theorem dX6_learnsThrough_71 : decode cX6_learnsThrough 71 = .ok (.iload 4, 2) := by decide +kernel
theorem dX6_learnsThrough_73 : decode cX6_learnsThrough 73 = .ok (.invokestatic 114, 3) := by decide +kernel
theorem dX6_learnsThrough_76 : decode cX6_learnsThrough 76 = .ok (.sipush 10007, 3) := by decide +kernel
theorem dX6_learnsThrough_79 : decode cX6_learnsThrough 79 = .ok (.aload_n 0, 1) := by decide +kernel
theorem dX6_learnsThrough_80 : decode cX6_learnsThrough 80 = .ok (.getfield 28, 3) := by decide +kernel
theorem dX6_learnsThrough_83 : decode cX6_learnsThrough 83 = .ok (.iload_n 2, 1) := by decide +kernel
theorem dX6_learnsThrough_84 : decode cX6_learnsThrough 84 = .ok (.iaload, 1) := by decide +kernel
theorem dX6_learnsThrough_85 : decode cX6_learnsThrough 85 = .ok (.aload_n 0, 1) := by decide +kernel
theorem dX6_learnsThrough_86 : decode cX6_learnsThrough 86 = .ok (.getfield 28, 3) := by decide +kernel
theorem dX6_learnsThrough_89 : decode cX6_learnsThrough 89 = .ok (.iload 6, 2) := by decide +kernel
theorem dX6_learnsThrough_91 : decode cX6_learnsThrough 91 = .ok (.iaload, 1) := by decide +kernel
theorem dX6_learnsThrough_92 : decode cX6_learnsThrough 92 = .ok (.invokestatic 78, 3) := by decide +kernel
theorem dX6_learnsThrough_95 : decode cX6_learnsThrough 95 = .ok (.invokestatic 114, 3) := by decide +kernel
theorem dX6_learnsThrough_98 : decode cX6_learnsThrough 98 = .ok (.invokestatic 78, 3) := by decide +kernel
theorem dX6_learnsThrough_101 : decode cX6_learnsThrough 101 = .ok (.iastore, 1) := by decide +kernel
theorem dX6_learnsThrough_102 : decode cX6_learnsThrough 102 = .ok (.return_, 1) := by decide +kernel
set_option maxRecDepth 20000 in
theorem ggX6_learnsAll_X6_tellsOf : GoodIn wsX6_learnsAll wsX6_tellsOf := goodIn_r _ [8, 2, 9, 10, 7, 11, 12, 13, 14, 15, 16, 17, 18, 19, 20, 21, 22, 23, 24, 25, 26, 27, 28, 29, 30, 31, 32, 33, 34, 35, 36, 37, 38, 39, 40, 41, 42, 43, 44, 45, 46, 47, 48, 49, 58, 59, 60, 61, 62, 63, 64, 65, 66, 67, 68, 69, 70, 71, 72, 73, 74, 75, 76, 77, 78] (by decide +kernel) (by decide +kernel)
set_option maxRecDepth 20000 in
theorem gX6_learnsAll_X6_tellsOf : GoodIn wsX6_learnsAll (wsV RX6 136 RX6 yX6_tellsOf wsX6_tellsOf) := goodIn_app (goodIn_of _ (by decide +kernel)) ggX6_learnsAll_X6_tellsOf
set_option maxRecDepth 20000 in
theorem ggX6_learnsAll_X6_less : GoodIn wsX6_learnsAll wsX6_less := goodIn_r _ [23, 15, 16, 7, 17, 18, 19, 20] (by decide +kernel) (by decide +kernel)
set_option maxRecDepth 20000 in
theorem gX6_learnsAll_X6_less : GoodIn wsX6_learnsAll (va_wsS RX6 114 yX6_less wsX6_less) := goodIn_app (goodIn_of _ (by decide +kernel)) ggX6_learnsAll_X6_less
set_option maxRecDepth 20000 in
theorem ggX6_learnsAll_X6_learnsSide : GoodIn wsX6_learnsAll wsX6_learnsSide := goodIn_r _ [53, 1, 32, 33, 7, 34, 15, 16, 17, 18, 19, 20, 21, 22, 23, 39, 40, 41, 42, 43, 44, 45, 46, 47, 48, 49, 12, 13, 14, 58, 59, 60, 61, 62, 63, 64, 65, 66, 67, 68, 69, 70, 71, 72, 73, 74, 75, 76, 77, 78] (by decide +kernel) (by decide +kernel)
set_option maxRecDepth 20000 in
theorem gX6_learnsAll_X6_learnsSide : GoodIn wsX6_learnsAll (wsV RX6 145 RX6 yX6_learnsSide wsX6_learnsSide) := goodIn_app (goodIn_of _ (by decide +kernel)) ggX6_learnsAll_X6_learnsSide
set_option maxRecDepth 20000 in
theorem ggX6_learnsAll_X6_learnsThrough : GoodIn wsX6_learnsAll wsX6_learnsThrough := goodIn_r _ [57, 1, 21, 22, 7, 23, 15, 16, 17, 18, 19, 20, 12, 13, 14, 32, 33, 34, 39, 40, 41, 42, 43, 44, 45, 46, 47, 48, 49, 58, 59, 60, 61, 62, 63, 64, 65, 66, 67, 68, 69, 70, 71, 72, 73, 74, 75, 76, 77, 78] (by decide +kernel) (by decide +kernel)
set_option maxRecDepth 20000 in
theorem gX6_learnsAll_X6_learnsThrough : GoodIn wsX6_learnsAll (wsV RX6 149 RX6 yX6_learnsThrough wsX6_learnsThrough) := goodIn_app (goodIn_of _ (by decide +kernel)) ggX6_learnsAll_X6_learnsThrough
theorem dX6_learnsAll_0 : decode cX6_learnsAll 0 = .ok (.aload_n 0, 1) := by decide +kernel
theorem dX6_learnsAll_1 : decode cX6_learnsAll 1 = .ok (.iconst 0, 1) := by decide +kernel
theorem dX6_learnsAll_2 : decode cX6_learnsAll 2 = .ok (.iconst 0, 1) := by decide +kernel
theorem dX6_learnsAll_3 : decode cX6_learnsAll 3 = .ok (.iconst 0, 1) := by decide +kernel
theorem dX6_learnsAll_4 : decode cX6_learnsAll 4 = .ok (.iconst 0, 1) := by decide +kernel
theorem dX6_learnsAll_5 : decode cX6_learnsAll 5 = .ok (.invokevirtual 136, 3) := by decide +kernel
theorem dX6_learnsAll_8 : decode cX6_learnsAll 8 = .ok (.aload_n 0, 1) := by decide +kernel
theorem dX6_learnsAll_9 : decode cX6_learnsAll 9 = .ok (.getfield 28, 3) := by decide +kernel
theorem dX6_learnsAll_12 : decode cX6_learnsAll 12 = .ok (.iconst 0, 1) := by decide +kernel
theorem dX6_learnsAll_13 : decode cX6_learnsAll 13 = .ok (.aload_n 0, 1) := by decide +kernel
theorem dX6_learnsAll_14 : decode cX6_learnsAll 14 = .ok (.getfield 25, 3) := by decide +kernel
theorem dX6_learnsAll_17 : decode cX6_learnsAll 17 = .ok (.iconst 0, 1) := by decide +kernel
theorem dX6_learnsAll_18 : decode cX6_learnsAll 18 = .ok (.iaload, 1) := by decide +kernel
theorem dX6_learnsAll_19 : decode cX6_learnsAll 19 = .ok (.iastore, 1) := by decide +kernel
theorem dX6_learnsAll_20 : decode cX6_learnsAll 20 = .ok (.aload_n 0, 1) := by decide +kernel
theorem dX6_learnsAll_21 : decode cX6_learnsAll 21 = .ok (.getfield 28, 3) := by decide +kernel
theorem dX6_learnsAll_24 : decode cX6_learnsAll 24 = .ok (.iconst 3, 1) := by decide +kernel
theorem dX6_learnsAll_25 : decode cX6_learnsAll 25 = .ok (.aload_n 0, 1) := by decide +kernel
theorem dX6_learnsAll_26 : decode cX6_learnsAll 26 = .ok (.getfield 25, 3) := by decide +kernel
theorem dX6_learnsAll_29 : decode cX6_learnsAll 29 = .ok (.iconst 2, 1) := by decide +kernel
theorem dX6_learnsAll_30 : decode cX6_learnsAll 30 = .ok (.iaload, 1) := by decide +kernel
theorem dX6_learnsAll_31 : decode cX6_learnsAll 31 = .ok (.iastore, 1) := by decide +kernel
theorem dX6_learnsAll_32 : decode cX6_learnsAll 32 = .ok (.aload_n 0, 1) := by decide +kernel
theorem dX6_learnsAll_33 : decode cX6_learnsAll 33 = .ok (.getfield 28, 3) := by decide +kernel
theorem dX6_learnsAll_36 : decode cX6_learnsAll 36 = .ok (.bipush 6, 2) := by decide +kernel
theorem dX6_learnsAll_38 : decode cX6_learnsAll 38 = .ok (.aload_n 0, 1) := by decide +kernel
theorem dX6_learnsAll_39 : decode cX6_learnsAll 39 = .ok (.getfield 25, 3) := by decide +kernel
theorem dX6_learnsAll_42 : decode cX6_learnsAll 42 = .ok (.iconst 3, 1) := by decide +kernel
theorem dX6_learnsAll_43 : decode cX6_learnsAll 43 = .ok (.iaload, 1) := by decide +kernel
theorem dX6_learnsAll_44 : decode cX6_learnsAll 44 = .ok (.iastore, 1) := by decide +kernel
theorem dX6_learnsAll_45 : decode cX6_learnsAll 45 = .ok (.aload_n 0, 1) := by decide +kernel
theorem dX6_learnsAll_46 : decode cX6_learnsAll 46 = .ok (.getfield 28, 3) := by decide +kernel
theorem dX6_learnsAll_49 : decode cX6_learnsAll 49 = .ok (.bipush 9, 2) := by decide +kernel
theorem dX6_learnsAll_51 : decode cX6_learnsAll 51 = .ok (.aload_n 0, 1) := by decide +kernel
theorem dX6_learnsAll_52 : decode cX6_learnsAll 52 = .ok (.getfield 25, 3) := by decide +kernel
theorem dX6_learnsAll_55 : decode cX6_learnsAll 55 = .ok (.iconst 1, 1) := by decide +kernel
theorem dX6_learnsAll_56 : decode cX6_learnsAll 56 = .ok (.iaload, 1) := by decide +kernel
theorem dX6_learnsAll_57 : decode cX6_learnsAll 57 = .ok (.iastore, 1) := by decide +kernel
theorem dX6_learnsAll_58 : decode cX6_learnsAll 58 = .ok (.aload_n 0, 1) := by decide +kernel
theorem dX6_learnsAll_59 : decode cX6_learnsAll 59 = .ok (.sipush 10007, 3) := by decide +kernel
theorem dX6_learnsAll_62 : decode cX6_learnsAll 62 = .ok (.iconst 0, 1) := by decide +kernel
theorem dX6_learnsAll_63 : decode cX6_learnsAll 63 = .ok (.iconst 0, 1) := by decide +kernel
theorem dX6_learnsAll_64 : decode cX6_learnsAll 64 = .ok (.iconst 0, 1) := by decide +kernel
theorem dX6_learnsAll_65 : decode cX6_learnsAll 65 = .ok (.invokevirtual 136, 3) := by decide +kernel
theorem dX6_learnsAll_68 : decode cX6_learnsAll 68 = .ok (.aload_n 0, 1) := by decide +kernel
theorem dX6_learnsAll_69 : decode cX6_learnsAll 69 = .ok (.getfield 25, 3) := by decide +kernel
theorem dX6_learnsAll_72 : decode cX6_learnsAll 72 = .ok (.iconst 0, 1) := by decide +kernel
theorem dX6_learnsAll_73 : decode cX6_learnsAll 73 = .ok (.iaload, 1) := by decide +kernel
theorem dX6_learnsAll_74 : decode cX6_learnsAll 74 = .ok (.aload_n 0, 1) := by decide +kernel
theorem dX6_learnsAll_75 : decode cX6_learnsAll 75 = .ok (.getfield 28, 3) := by decide +kernel
theorem dX6_learnsAll_78 : decode cX6_learnsAll 78 = .ok (.iconst 0, 1) := by decide +kernel
theorem dX6_learnsAll_79 : decode cX6_learnsAll 79 = .ok (.iaload, 1) := by decide +kernel
theorem dX6_learnsAll_80 : decode cX6_learnsAll 80 = .ok (.invokestatic 114, 3) := by decide +kernel
theorem dX6_learnsAll_83 : decode cX6_learnsAll 83 = .ok (.istore_n 1, 1) := by decide +kernel
theorem dX6_learnsAll_84 : decode cX6_learnsAll 84 = .ok (.aload_n 0, 1) := by decide +kernel
theorem dX6_learnsAll_85 : decode cX6_learnsAll 85 = .ok (.ldc 144, 2) := by decide +kernel
theorem dX6_learnsAll_87 : decode cX6_learnsAll 87 = .ok (.iconst 0, 1) := by decide +kernel
theorem dX6_learnsAll_88 : decode cX6_learnsAll 88 = .ok (.iconst 0, 1) := by decide +kernel
theorem dX6_learnsAll_89 : decode cX6_learnsAll 89 = .ok (.iconst 0, 1) := by decide +kernel
theorem dX6_learnsAll_90 : decode cX6_learnsAll 90 = .ok (.invokevirtual 136, 3) := by decide +kernel
theorem dX6_learnsAll_93 : decode cX6_learnsAll 93 = .ok (.aload_n 0, 1) := by decide +kernel
theorem dX6_learnsAll_94 : decode cX6_learnsAll 94 = .ok (.iconst 1, 1) := by decide +kernel
theorem dX6_learnsAll_95 : decode cX6_learnsAll 95 = .ok (.iload_n 1, 1) := by decide +kernel
theorem dX6_learnsAll_96 : decode cX6_learnsAll 96 = .ok (.aload_n 0, 1) := by decide +kernel
theorem dX6_learnsAll_97 : decode cX6_learnsAll 97 = .ok (.getfield 25, 3) := by decide +kernel
theorem dX6_learnsAll_100 : decode cX6_learnsAll 100 = .ok (.iconst 0, 1) := by decide +kernel
theorem dX6_learnsAll_101 : decode cX6_learnsAll 101 = .ok (.iaload, 1) := by decide +kernel
theorem dX6_learnsAll_102 : decode cX6_learnsAll 102 = .ok (.aload_n 0, 1) := by decide +kernel
theorem dX6_learnsAll_103 : decode cX6_learnsAll 103 = .ok (.getfield 28, 3) := by decide +kernel
theorem dX6_learnsAll_106 : decode cX6_learnsAll 106 = .ok (.iconst 0, 1) := by decide +kernel
theorem dX6_learnsAll_107 : decode cX6_learnsAll 107 = .ok (.iaload, 1) := by decide +kernel
theorem dX6_learnsAll_108 : decode cX6_learnsAll 108 = .ok (.invokestatic 114, 3) := by decide +kernel
theorem dX6_learnsAll_111 : decode cX6_learnsAll 111 = .ok (.invokevirtual 145, 3) := by decide +kernel
theorem dX6_learnsAll_114 : decode cX6_learnsAll 114 = .ok (.aload_n 0, 1) := by decide +kernel
theorem dX6_learnsAll_115 : decode cX6_learnsAll 115 = .ok (.iconst 0, 1) := by decide +kernel
theorem dX6_learnsAll_116 : decode cX6_learnsAll 116 = .ok (.iconst 0, 1) := by decide +kernel
theorem dX6_learnsAll_117 : decode cX6_learnsAll 117 = .ok (.iconst 0, 1) := by decide +kernel
theorem dX6_learnsAll_118 : decode cX6_learnsAll 118 = .ok (.sipush 10007, 3) := by decide +kernel
theorem dX6_learnsAll_121 : decode cX6_learnsAll 121 = .ok (.invokevirtual 136, 3) := by decide +kernel
theorem dX6_learnsAll_124 : decode cX6_learnsAll 124 = .ok (.aload_n 0, 1) := by decide +kernel
theorem dX6_learnsAll_125 : decode cX6_learnsAll 125 = .ok (.getfield 25, 3) := by decide +kernel
theorem dX6_learnsAll_128 : decode cX6_learnsAll 128 = .ok (.iconst 3, 1) := by decide +kernel
theorem dX6_learnsAll_129 : decode cX6_learnsAll 129 = .ok (.iaload, 1) := by decide +kernel
theorem dX6_learnsAll_130 : decode cX6_learnsAll 130 = .ok (.aload_n 0, 1) := by decide +kernel
theorem dX6_learnsAll_131 : decode cX6_learnsAll 131 = .ok (.getfield 28, 3) := by decide +kernel
theorem dX6_learnsAll_134 : decode cX6_learnsAll 134 = .ok (.bipush 6, 2) := by decide +kernel
theorem dX6_learnsAll_136 : decode cX6_learnsAll 136 = .ok (.iaload, 1) := by decide +kernel
theorem dX6_learnsAll_137 : decode cX6_learnsAll 137 = .ok (.invokestatic 114, 3) := by decide +kernel
theorem dX6_learnsAll_140 : decode cX6_learnsAll 140 = .ok (.istore_n 1, 1) := by decide +kernel
theorem dX6_learnsAll_141 : decode cX6_learnsAll 141 = .ok (.aload_n 0, 1) := by decide +kernel
theorem dX6_learnsAll_142 : decode cX6_learnsAll 142 = .ok (.iconst 0, 1) := by decide +kernel
theorem dX6_learnsAll_143 : decode cX6_learnsAll 143 = .ok (.iconst 0, 1) := by decide +kernel
theorem dX6_learnsAll_144 : decode cX6_learnsAll 144 = .ok (.iconst 0, 1) := by decide +kernel
theorem dX6_learnsAll_145 : decode cX6_learnsAll 145 = .ok (.ldc 144, 2) := by decide +kernel
theorem dX6_learnsAll_147 : decode cX6_learnsAll 147 = .ok (.invokevirtual 136, 3) := by decide +kernel
theorem dX6_learnsAll_150 : decode cX6_learnsAll 150 = .ok (.aload_n 0, 1) := by decide +kernel
theorem dX6_learnsAll_151 : decode cX6_learnsAll 151 = .ok (.bipush 7, 2) := by decide +kernel
theorem dX6_learnsAll_153 : decode cX6_learnsAll 153 = .ok (.iload_n 1, 1) := by decide +kernel
theorem dX6_learnsAll_154 : decode cX6_learnsAll 154 = .ok (.aload_n 0, 1) := by decide +kernel
theorem dX6_learnsAll_155 : decode cX6_learnsAll 155 = .ok (.getfield 25, 3) := by decide +kernel
theorem dX6_learnsAll_158 : decode cX6_learnsAll 158 = .ok (.iconst 3, 1) := by decide +kernel
theorem dX6_learnsAll_159 : decode cX6_learnsAll 159 = .ok (.iaload, 1) := by decide +kernel
theorem dX6_learnsAll_160 : decode cX6_learnsAll 160 = .ok (.aload_n 0, 1) := by decide +kernel
theorem dX6_learnsAll_161 : decode cX6_learnsAll 161 = .ok (.getfield 28, 3) := by decide +kernel
theorem dX6_learnsAll_164 : decode cX6_learnsAll 164 = .ok (.bipush 6, 2) := by decide +kernel
theorem dX6_learnsAll_166 : decode cX6_learnsAll 166 = .ok (.iaload, 1) := by decide +kernel
theorem dX6_learnsAll_167 : decode cX6_learnsAll 167 = .ok (.invokestatic 114, 3) := by decide +kernel
theorem dX6_learnsAll_170 : decode cX6_learnsAll 170 = .ok (.invokevirtual 145, 3) := by decide +kernel
theorem dX6_learnsAll_173 : decode cX6_learnsAll 173 = .ok (.aload_n 0, 1) := by decide +kernel
theorem dX6_learnsAll_174 : decode cX6_learnsAll 174 = .ok (.iconst 0, 1) := by decide +kernel
theorem dX6_learnsAll_175 : decode cX6_learnsAll 175 = .ok (.sipush 10007, 3) := by decide +kernel
theorem dX6_learnsAll_178 : decode cX6_learnsAll 178 = .ok (.sipush 10007, 3) := by decide +kernel
theorem dX6_learnsAll_181 : decode cX6_learnsAll 181 = .ok (.iconst 0, 1) := by decide +kernel
theorem dX6_learnsAll_182 : decode cX6_learnsAll 182 = .ok (.invokevirtual 136, 3) := by decide +kernel
theorem dX6_learnsAll_185 : decode cX6_learnsAll 185 = .ok (.aload_n 0, 1) := by decide +kernel
theorem dX6_learnsAll_186 : decode cX6_learnsAll 186 = .ok (.aload_n 0, 1) := by decide +kernel
theorem dX6_learnsAll_187 : decode cX6_learnsAll 187 = .ok (.getfield 25, 3) := by decide +kernel
theorem dX6_learnsAll_190 : decode cX6_learnsAll 190 = .ok (.iconst 0, 1) := by decide +kernel
theorem dX6_learnsAll_191 : decode cX6_learnsAll 191 = .ok (.iaload, 1) := by decide +kernel
theorem dX6_learnsAll_192 : decode cX6_learnsAll 192 = .ok (.iconst 1, 1) := by decide +kernel
theorem dX6_learnsAll_193 : decode cX6_learnsAll 193 = .ok (.aload_n 0, 1) := by decide +kernel
theorem dX6_learnsAll_194 : decode cX6_learnsAll 194 = .ok (.getfield 25, 3) := by decide +kernel
