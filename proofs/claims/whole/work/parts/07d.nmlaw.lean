set_option maxRecDepth 20000 in
theorem gcX5_does_1 : GoodIn wsL_law [Cond.code yX5_does cX5_does 4 (some .int)] := goodIn_r _ [684] (by decide +kernel) (by decide +kernel)
set_option maxRecDepth 20000 in
theorem gcX5_does_2 : GoodIn wsL_law wsX5_does_r1 := goodIn_r _ [19, 685, 686, 687, 688, 18, 689, 690, 691, 692, 663, 693, 694, 695, 696, 697, 698, 699, 700, 48, 117, 2, 118, 701] (by decide +kernel) (by decide +kernel)
set_option maxRecDepth 20000 in
theorem gcX5_does_3 : GoodIn wsL_law wsX5_does_r2 := goodIn_r _ [702, 703, 704, 49, 50, 705, 706, 707, 708, 709, 710, 711, 51, 712, 713, 714, 82, 83, 84, 85, 24, 23, 86, 87] (by decide +kernel) (by decide +kernel)
set_option maxRecDepth 20000 in
theorem gcX5_does_4 : GoodIn wsL_law wsX5_does_r3 := goodIn_r _ [88, 22, 89, 57, 58, 90, 91, 92, 93, 59, 94, 95, 96, 97, 98, 31, 99, 100, 101, 102, 103, 104, 105, 106] (by decide +kernel) (by decide +kernel)
set_option maxRecDepth 20000 in
theorem gcX5_does_5 : GoodIn wsL_law wsX5_does_r4 := goodIn_r _ [107, 715, 716, 717, 718, 15, 719, 720, 721, 722, 723, 724, 725, 14, 726, 38, 727, 728, 729, 730, 731, 169, 170, 171] (by decide +kernel) (by decide +kernel)
set_option maxRecDepth 20000 in
theorem gcX5_does_6 : GoodIn wsL_law wsX5_does_r5 := goodIn_r _ [732, 177, 178, 733, 180, 181, 182, 113, 114, 115, 116, 734, 215, 216, 217, 218, 168, 176, 355, 356, 357, 358, 267, 40] (by decide +kernel) (by decide +kernel)
set_option maxRecDepth 20000 in
theorem gcX5_does_7 : GoodIn wsL_law wsX5_does_r6 := goodIn_r _ [359, 360, 361, 362, 363, 364, 365, 32, 33, 274, 277, 275, 276, 112, 270, 271, 272, 273, 278, 279, 280, 281, 282, 283] (by decide +kernel) (by decide +kernel)
set_option maxRecDepth 20000 in
theorem gcX5_does_8 : GoodIn wsL_law wsX5_does_r7 := goodIn_r _ [284, 285, 286, 287, 288, 289, 290, 291, 292, 293, 294, 295, 296, 297, 298, 299, 366, 367, 368, 369, 370, 371, 372, 373] (by decide +kernel) (by decide +kernel)
set_option maxRecDepth 20000 in
theorem gcX5_does_9 : GoodIn wsL_law wsX5_does_r8 := goodIn_r _ [374, 375, 376, 377, 378, 379, 380, 381, 382, 383, 384, 385, 386, 426, 427, 428, 429, 268, 269, 165, 166, 167, 430, 431] (by decide +kernel) (by decide +kernel)
set_option maxRecDepth 20000 in
theorem gcX5_does_10 : GoodIn wsL_law wsX5_does_r9 := goodIn_r _ [432, 433, 34, 434, 435, 436, 437, 438, 439, 440, 441, 442, 467, 468, 469, 470, 35, 36, 37, 471, 472, 473, 474, 475] (by decide +kernel) (by decide +kernel)
set_option maxRecDepth 20000 in
theorem gcX5_does_11 : GoodIn wsL_law wsX5_does_r10 := goodIn_r _ [476, 477, 478, 479, 480, 481, 482, 483, 484, 485, 486, 487, 488, 489, 130, 131, 132, 133, 134, 25] (by decide +kernel) (by decide +kernel)
set_option maxRecDepth 20000 in
theorem gcX5_does_12 : GoodIn wsL_law wsX50 := goodIn_r _ [840, 841, 842, 843, 844, 845, 846, 847, 848] (by decide +kernel) (by decide +kernel)
set_option maxRecDepth 20000 in
theorem gcX5_does_13 : GoodIn wsL_law wsX30 := goodIn_r _ [878, 879, 880, 881, 882, 883, 884, 885] (by decide +kernel) (by decide +kernel)
set_option maxRecDepth 20000 in
theorem gcX5_does_14 : GoodIn wsL_law wsX20 := goodIn_r _ [886, 887, 888, 889, 890] (by decide +kernel) (by decide +kernel)
set_option maxRecDepth 20000 in
theorem gcX5_does_15 : GoodIn wsL_law wsX00 := goodIn_r _ [891, 892, 893, 894] (by decide +kernel) (by decide +kernel)
set_option maxRecDepth 20000 in
theorem gcX5_does_16 : GoodIn wsL_law wsX40 := goodIn_r _ [870, 871, 872, 873, 874, 875, 876, 877] (by decide +kernel) (by decide +kernel)
theorem ggL_law_X5_does : GoodIn wsL_law wsX5_does := goodIn_app (a := [Cond.code yX5_does cX5_does 4 (some .int)]) gcX5_does_1 (goodIn_app (goodIn_app (goodIn_app (goodIn_app (goodIn_app (goodIn_app gcX5_does_2 (goodIn_app gcX5_does_3 (goodIn_app gcX5_does_4 (goodIn_app gcX5_does_5 (goodIn_app gcX5_does_6 (goodIn_app gcX5_does_7 (goodIn_app gcX5_does_8 (goodIn_app gcX5_does_9 (goodIn_app gcX5_does_10 (gcX5_does_11)))))))))) gcX5_does_12) gcX5_does_13) gcX5_does_14) gcX5_does_15) gcX5_does_16)
set_option maxRecDepth 20000 in
theorem gL_law_X5_does : GoodIn wsL_law (wsV RL 98 RX5 yX5_does wsX5_does) := goodIn_app (goodIn_of _ (by decide +kernel)) ggL_law_X5_does
set_option maxRecDepth 20000 in
theorem gcX6_does_1 : GoodIn wsL_law [Cond.code yX6_does cX6_does 2 (some .int)] := goodIn_r _ [738] (by decide +kernel) (by decide +kernel)
set_option maxRecDepth 20000 in
theorem gcX6_does_2 : GoodIn wsL_law wsX6_does_r1 := goodIn_r _ [739, 65, 64, 740, 741, 742, 743, 5, 744, 745, 76, 668, 746, 747, 748, 749, 750, 751, 752, 753, 68, 191, 192, 193] (by decide +kernel) (by decide +kernel)
set_option maxRecDepth 20000 in
theorem gcX6_does_3 : GoodIn wsL_law wsX6_does_r2 := goodIn_r _ [754, 755, 756, 757, 75, 758, 759, 760, 761, 762, 763, 764, 765, 766, 767, 768, 77, 769, 770, 771, 772, 773, 774, 775] (by decide +kernel) (by decide +kernel)
set_option maxRecDepth 20000 in
theorem gcX6_does_4 : GoodIn wsL_law wsX6_does_r3 := goodIn_r _ [776, 194, 195, 196, 777, 778, 779, 780, 201, 202, 203, 204, 205, 206, 148, 149, 150, 151, 152, 153, 154, 155, 781, 782] (by decide +kernel) (by decide +kernel)
set_option maxRecDepth 20000 in
theorem gcX6_does_5 : GoodIn wsL_law wsX6_does_r4 := goodIn_r _ [783, 784, 223, 224, 225, 391, 392, 393, 394, 305, 395, 396, 397, 398, 70, 69, 399, 310, 311, 312, 313, 314, 315, 316] (by decide +kernel) (by decide +kernel)
set_option maxRecDepth 20000 in
theorem gcX6_does_6 : GoodIn wsL_law wsX6_does_r5 := goodIn_r _ [317, 318, 319, 320, 321, 322, 323, 324, 325, 326, 327, 328, 329, 330, 331, 332, 333, 334, 335, 336, 337, 338, 339, 340] (by decide +kernel) (by decide +kernel)
set_option maxRecDepth 20000 in
theorem gcX6_does_7 : GoodIn wsL_law wsX6_does_r6 := goodIn_r _ [341, 342, 343, 344, 345, 346, 400, 401, 402, 403, 404, 405, 406, 407, 408, 409, 410, 411, 187, 188, 189, 190, 447, 448] (by decide +kernel) (by decide +kernel)
set_option maxRecDepth 20000 in
theorem gcX6_does_8 : GoodIn wsL_law wsX6_does_r7 := goodIn_r _ [449, 450, 451, 452, 453, 454, 71, 306, 307, 308, 309, 455, 456, 457, 458, 785, 786, 787, 788, 494, 495, 496, 497, 72] (by decide +kernel) (by decide +kernel)
set_option maxRecDepth 20000 in
theorem gcX6_does_9 : GoodIn wsL_law wsX6_does_r8 := goodIn_r _ [73, 498, 499, 500, 501, 502, 503, 504, 505, 506, 507, 508, 509, 74, 510, 511, 512, 513, 789, 790, 791, 792, 143, 144] (by decide +kernel) (by decide +kernel)
set_option maxRecDepth 20000 in
theorem gcX6_does_10 : GoodIn wsL_law wsX6_does_r9 := goodIn_r _ [145, 146, 147, 66] (by decide +kernel) (by decide +kernel)
set_option maxRecDepth 20000 in
theorem gcX6_does_11 : GoodIn wsL_law wsX60 := goodIn_r _ [849, 850, 851, 852, 853, 854, 855, 856, 857, 858, 859, 860, 861, 862, 863, 864, 865, 866, 867, 868, 869] (by decide +kernel) (by decide +kernel)
theorem ggL_law_X6_does : GoodIn wsL_law wsX6_does := goodIn_app (a := [Cond.code yX6_does cX6_does 2 (some .int)]) gcX6_does_1 (goodIn_app (goodIn_app gcX6_does_2 (goodIn_app gcX6_does_3 (goodIn_app gcX6_does_4 (goodIn_app gcX6_does_5 (goodIn_app gcX6_does_6 (goodIn_app gcX6_does_7 (goodIn_app gcX6_does_8 (goodIn_app gcX6_does_9 (gcX6_does_10))))))))) gcX6_does_11)
set_option maxRecDepth 20000 in
theorem gL_law_X6_does : GoodIn wsL_law (wsV RL 101 RX6 yX6_does wsX6_does) := goodIn_app (goodIn_of _ (by decide +kernel)) ggL_law_X6_does
set_option maxRecDepth 20000 in
theorem ggL_law_X5_back : GoodIn wsL_law wsX5_back := goodIn_r _ [796, 134, 23, 25, 123, 124, 125, 2, 126, 127, 128, 129, 840, 841, 842, 843, 844, 845, 846, 847, 848] (by decide +kernel) (by decide +kernel)
set_option maxRecDepth 20000 in
theorem gL_law_X5_back : GoodIn wsL_law (wsV RL 102 RX5 yX5_back wsX5_back) := goodIn_app (goodIn_of _ (by decide +kernel)) ggL_law_X5_back
set_option maxRecDepth 20000 in
theorem ggL_law_X6_back : GoodIn wsL_law wsX6_back := goodIn_r _ [800, 147, 64, 66, 347, 348, 349, 5, 350, 67, 849, 850, 851, 852, 853, 854, 855, 856, 857, 858, 859, 860, 861, 862, 863, 864, 865, 866, 867, 868, 869] (by decide +kernel) (by decide +kernel)
set_option maxRecDepth 20000 in
theorem gL_law_X6_back : GoodIn wsL_law (wsV RL 105 RX6 yX6_back wsX6_back) := goodIn_app (goodIn_of _ (by decide +kernel)) ggL_law_X6_back
set_option maxRecDepth 20000 in
theorem ggL_law_X5_count : GoodIn wsL_law wsX5_count := goodIn_r _ [804, 23, 805, 416, 127, 128, 129, 19, 806, 134, 123, 124, 125, 2, 126, 840, 841, 842, 843, 844, 845, 846, 847, 848, 886, 887, 888, 889, 890, 878, 879, 880, 881, 882, 883, 884, 885] (by decide +kernel) (by decide +kernel)
set_option maxRecDepth 20000 in
theorem gL_law_X5_count : GoodIn wsL_law (wsV RL 106 RX5 yX5_count wsX5_count) := goodIn_app (goodIn_of _ (by decide +kernel)) ggL_law_X5_count
set_option maxRecDepth 20000 in
theorem ggL_law_X6_count : GoodIn wsL_law wsX6_count := goodIn_r _ [810, 191, 192, 5, 193, 811, 812, 813, 814, 64, 668, 147, 67, 197, 198, 199, 200, 849, 850, 851, 852, 853, 854, 855, 856, 857, 858, 859, 860, 861, 862, 863, 864, 865, 866, 867, 868, 869] (by decide +kernel) (by decide +kernel)
set_option maxRecDepth 20000 in
theorem gL_law_X6_count : GoodIn wsL_law (wsV RL 109 RX6 yX6_count wsX6_count) := goodIn_app (goodIn_of _ (by decide +kernel)) ggL_law_X6_count
set_option maxRecDepth 20000 in
theorem ggL_law_X5_digest : GoodIn wsL_law wsX5_digest := goodIn_r _ [818, 819, 820, 23, 805, 821, 802, 803, 2, 804, 416, 127, 128, 129, 19, 806, 134, 123, 124, 125, 126, 822, 823, 824, 825, 242, 245, 173, 174, 31, 175, 100, 101, 102, 103, 579, 279, 280, 281, 282, 283, 170, 284, 285, 177, 178, 286, 287, 288, 609, 610, 611, 595, 596, 593, 594, 612, 613, 614, 615, 616, 617, 618, 482, 483, 484, 485, 292, 293, 639, 640, 641, 22, 642, 57, 643, 644, 645, 646, 826, 251, 252, 253, 254, 244, 117, 118, 827, 413, 414, 415, 417, 840, 841, 842, 843, 844, 845, 846, 847, 848, 886, 887, 888, 889, 890, 878, 879, 880, 881, 882, 883, 884, 885, 891, 892, 893, 894] (by decide +kernel) (by decide +kernel)
set_option maxRecDepth 20000 in
theorem gL_law_X5_digest : GoodIn wsL_law (wsV RL 110 RX5 yX5_digest wsX5_digest) := goodIn_app (goodIn_of _ (by decide +kernel)) ggL_law_X5_digest
set_option maxRecDepth 20000 in
theorem ggL_law_X6_digest : GoodIn wsL_law wsX6_digest := goodIn_r _ [831, 832, 833, 64, 834, 811, 812, 813, 5, 814, 668, 147, 67, 835, 836, 837, 838, 839, 152, 153, 154, 155, 502, 503, 504, 505, 314, 315, 316, 317, 318, 319, 201, 202, 203, 204, 205, 206, 320, 321, 322, 623, 624, 625, 626, 627, 628, 629, 630, 631, 632, 633, 634, 344, 345, 346, 330, 331, 332, 651, 652, 653, 654, 849, 850, 851, 852, 853, 854, 855, 856, 857, 858, 859, 860, 861, 862, 863, 864, 865, 866, 867, 868, 869] (by decide +kernel) (by decide +kernel)
set_option maxRecDepth 20000 in
theorem gL_law_X6_digest : GoodIn wsL_law (wsV RL 114 RX6 yX6_digest wsX6_digest) := goodIn_app (goodIn_of _ (by decide +kernel)) ggL_law_X6_digest
theorem dL_law_0 : decode cL_law 0 = .ok (.new 7, 3) := by decide +kernel
theorem dL_law_3 : decode cL_law 3 = .ok (.dup, 1) := by decide +kernel
theorem dL_law_4 : decode cL_law 4 = .ok (.invokespecial 9, 3) := by decide +kernel
theorem dL_law_7 : decode cL_law 7 = .ok (.astore_n 1, 1) := by decide +kernel
theorem dL_law_8 : decode cL_law 8 = .ok (.new 10, 3) := by decide +kernel
theorem dL_law_11 : decode cL_law 11 = .ok (.dup, 1) := by decide +kernel
theorem dL_law_12 : decode cL_law 12 = .ok (.invokespecial 12, 3) := by decide +kernel
theorem dL_law_15 : decode cL_law 15 = .ok (.astore_n 2, 1) := by decide +kernel
theorem dL_law_16 : decode cL_law 16 = .ok (.iconst 0, 1) := by decide +kernel
theorem dL_law_17 : decode cL_law 17 = .ok (.istore_n 3, 1) := by decide +kernel
theorem dL_law_18 : decode cL_law 18 = .ok (.iload_n 3, 1) := by decide +kernel
theorem dL_law_19 : decode cL_law 19 = .ok (.aload_n 0, 1) := by decide +kernel
theorem dL_law_20 : decode cL_law 20 = .ok (.arraylength, 1) := by decide +kernel
theorem dL_law_21 : decode cL_law 21 = .ok (.iconst 5, 1) := by decide +kernel
theorem dL_law_22 : decode cL_law 22 = .ok (.isub, 1) := by decide +kernel
theorem dL_law_23 : decode cL_law 23 = .ok (.if_icmp .gt 780, 3) := by decide +kernel
theorem dL_law_26 : decode cL_law 26 = .ok (.aload_n 0, 1) := by decide +kernel
theorem dL_law_27 : decode cL_law 27 = .ok (.iload_n 3, 1) := by decide +kernel
theorem dL_law_28 : decode cL_law 28 = .ok (.iaload, 1) := by decide +kernel
theorem dL_law_29 : decode cL_law 29 = .ok (.bipush 31, 2) := by decide +kernel
theorem dL_law_31 : decode cL_law 31 = .ok (.iand, 1) := by decide +kernel
theorem dL_law_32 : decode cL_law 32 = .ok (.tableswitch 765 0 23 #[112, 125, 178, 221, 244, 277, 300, 333, 346, 369, 392, 425, 468, 491, 534, 557, 610, 643, 666, 689, 702, 715, 728, 751], 112) := by decide +kernel
theorem dL_law_144 : decode cL_law 144 = .ok (.aload_n 1, 1) := by decide +kernel
theorem dL_law_145 : decode cL_law 145 = .ok (.invokevirtual 13, 3) := by decide +kernel
theorem dL_law_148 : decode cL_law 148 = .ok (.aload_n 2, 1) := by decide +kernel
theorem dL_law_149 : decode cL_law 149 = .ok (.invokevirtual 17, 3) := by decide +kernel
theorem dL_law_152 : decode cL_law 152 = .ok (.if_icmp .eq 645, 3) := by decide +kernel
theorem dL_law_155 : decode cL_law 155 = .ok (.iconst 0, 1) := by decide +kernel
theorem dL_law_156 : decode cL_law 156 = .ok (.ireturn, 1) := by decide +kernel
theorem dL_law_157 : decode cL_law 157 = .ok (.aload_n 1, 1) := by decide +kernel
theorem dL_law_158 : decode cL_law 158 = .ok (.aload_n 0, 1) := by decide +kernel
theorem dL_law_159 : decode cL_law 159 = .ok (.iload_n 3, 1) := by decide +kernel
theorem dL_law_160 : decode cL_law 160 = .ok (.iconst 1, 1) := by decide +kernel
theorem dL_law_161 : decode cL_law 161 = .ok (.iadd, 1) := by decide +kernel
theorem dL_law_162 : decode cL_law 162 = .ok (.iaload, 1) := by decide +kernel
theorem dL_law_163 : decode cL_law 163 = .ok (.aload_n 0, 1) := by decide +kernel
theorem dL_law_164 : decode cL_law 164 = .ok (.iload_n 3, 1) := by decide +kernel
theorem dL_law_165 : decode cL_law 165 = .ok (.iconst 2, 1) := by decide +kernel
theorem dL_law_166 : decode cL_law 166 = .ok (.iadd, 1) := by decide +kernel
theorem dL_law_167 : decode cL_law 167 = .ok (.iaload, 1) := by decide +kernel
theorem dL_law_168 : decode cL_law 168 = .ok (.aload_n 0, 1) := by decide +kernel
theorem dL_law_169 : decode cL_law 169 = .ok (.iload_n 3, 1) := by decide +kernel
theorem dL_law_170 : decode cL_law 170 = .ok (.iconst 3, 1) := by decide +kernel
theorem dL_law_171 : decode cL_law 171 = .ok (.iadd, 1) := by decide +kernel
theorem dL_law_172 : decode cL_law 172 = .ok (.iaload, 1) := by decide +kernel
theorem dL_law_173 : decode cL_law 173 = .ok (.aload_n 0, 1) := by decide +kernel
theorem dL_law_174 : decode cL_law 174 = .ok (.iload_n 3, 1) := by decide +kernel
theorem dL_law_175 : decode cL_law 175 = .ok (.iconst 4, 1) := by decide +kernel
theorem dL_law_176 : decode cL_law 176 = .ok (.iadd, 1) := by decide +kernel
theorem dL_law_177 : decode cL_law 177 = .ok (.iaload, 1) := by decide +kernel
theorem dL_law_178 : decode cL_law 178 = .ok (.invokevirtual 18, 3) := by decide +kernel
theorem dL_law_181 : decode cL_law 181 = .ok (.aload_n 2, 1) := by decide +kernel
theorem dL_law_182 : decode cL_law 182 = .ok (.aload_n 0, 1) := by decide +kernel
theorem dL_law_183 : decode cL_law 183 = .ok (.iload_n 3, 1) := by decide +kernel
theorem dL_law_184 : decode cL_law 184 = .ok (.iconst 1, 1) := by decide +kernel
theorem dL_law_185 : decode cL_law 185 = .ok (.iadd, 1) := by decide +kernel
theorem dL_law_186 : decode cL_law 186 = .ok (.iaload, 1) := by decide +kernel
theorem dL_law_187 : decode cL_law 187 = .ok (.aload_n 0, 1) := by decide +kernel
theorem dL_law_188 : decode cL_law 188 = .ok (.iload_n 3, 1) := by decide +kernel
theorem dL_law_189 : decode cL_law 189 = .ok (.iconst 2, 1) := by decide +kernel
theorem dL_law_190 : decode cL_law 190 = .ok (.iadd, 1) := by decide +kernel
theorem dL_law_191 : decode cL_law 191 = .ok (.iaload, 1) := by decide +kernel
theorem dL_law_192 : decode cL_law 192 = .ok (.aload_n 0, 1) := by decide +kernel
theorem dL_law_193 : decode cL_law 193 = .ok (.iload_n 3, 1) := by decide +kernel
theorem dL_law_194 : decode cL_law 194 = .ok (.iconst 3, 1) := by decide +kernel
theorem dL_law_195 : decode cL_law 195 = .ok (.iadd, 1) := by decide +kernel
theorem dL_law_196 : decode cL_law 196 = .ok (.iaload, 1) := by decide +kernel
theorem dL_law_197 : decode cL_law 197 = .ok (.aload_n 0, 1) := by decide +kernel
theorem dL_law_198 : decode cL_law 198 = .ok (.iload_n 3, 1) := by decide +kernel
theorem dL_law_199 : decode cL_law 199 = .ok (.iconst 4, 1) := by decide +kernel
theorem dL_law_200 : decode cL_law 200 = .ok (.iadd, 1) := by decide +kernel
theorem dL_law_201 : decode cL_law 201 = .ok (.iaload, 1) := by decide +kernel
theorem dL_law_202 : decode cL_law 202 = .ok (.invokevirtual 22, 3) := by decide +kernel
theorem dL_law_205 : decode cL_law 205 = .ok (.if_icmp .eq 592, 3) := by decide +kernel
theorem dL_law_208 : decode cL_law 208 = .ok (.iconst 0, 1) := by decide +kernel
theorem dL_law_209 : decode cL_law 209 = .ok (.ireturn, 1) := by decide +kernel
theorem dL_law_210 : decode cL_law 210 = .ok (.aload_n 1, 1) := by decide +kernel
theorem dL_law_211 : decode cL_law 211 = .ok (.aload_n 0, 1) := by decide +kernel
theorem dL_law_212 : decode cL_law 212 = .ok (.iload_n 3, 1) := by decide +kernel
theorem dL_law_213 : decode cL_law 213 = .ok (.iconst 1, 1) := by decide +kernel
theorem dL_law_214 : decode cL_law 214 = .ok (.iadd, 1) := by decide +kernel
theorem dL_law_215 : decode cL_law 215 = .ok (.iaload, 1) := by decide +kernel
theorem dL_law_216 : decode cL_law 216 = .ok (.aload_n 0, 1) := by decide +kernel
theorem dL_law_217 : decode cL_law 217 = .ok (.iload_n 3, 1) := by decide +kernel
theorem dL_law_218 : decode cL_law 218 = .ok (.iconst 2, 1) := by decide +kernel
theorem dL_law_219 : decode cL_law 219 = .ok (.iadd, 1) := by decide +kernel
theorem dL_law_220 : decode cL_law 220 = .ok (.iaload, 1) := by decide +kernel
theorem dL_law_221 : decode cL_law 221 = .ok (.aload_n 0, 1) := by decide +kernel
theorem dL_law_222 : decode cL_law 222 = .ok (.iload_n 3, 1) := by decide +kernel
theorem dL_law_223 : decode cL_law 223 = .ok (.iconst 3, 1) := by decide +kernel
theorem dL_law_224 : decode cL_law 224 = .ok (.iadd, 1) := by decide +kernel
theorem dL_law_225 : decode cL_law 225 = .ok (.iaload, 1) := by decide +kernel
theorem dL_law_226 : decode cL_law 226 = .ok (.invokevirtual 23, 3) := by decide +kernel
theorem dL_law_229 : decode cL_law 229 = .ok (.aload_n 2, 1) := by decide +kernel
theorem dL_law_230 : decode cL_law 230 = .ok (.aload_n 0, 1) := by decide +kernel
theorem dL_law_231 : decode cL_law 231 = .ok (.iload_n 3, 1) := by decide +kernel
theorem dL_law_232 : decode cL_law 232 = .ok (.iconst 1, 1) := by decide +kernel
theorem dL_law_233 : decode cL_law 233 = .ok (.iadd, 1) := by decide +kernel
theorem dL_law_234 : decode cL_law 234 = .ok (.iaload, 1) := by decide +kernel
theorem dL_law_235 : decode cL_law 235 = .ok (.aload_n 0, 1) := by decide +kernel
theorem dL_law_236 : decode cL_law 236 = .ok (.iload_n 3, 1) := by decide +kernel
theorem dL_law_237 : decode cL_law 237 = .ok (.iconst 2, 1) := by decide +kernel
theorem dL_law_238 : decode cL_law 238 = .ok (.iadd, 1) := by decide +kernel
theorem dL_law_239 : decode cL_law 239 = .ok (.iaload, 1) := by decide +kernel
theorem dL_law_240 : decode cL_law 240 = .ok (.aload_n 0, 1) := by decide +kernel
theorem dL_law_241 : decode cL_law 241 = .ok (.iload_n 3, 1) := by decide +kernel
theorem dL_law_242 : decode cL_law 242 = .ok (.iconst 3, 1) := by decide +kernel
theorem dL_law_243 : decode cL_law 243 = .ok (.iadd, 1) := by decide +kernel
theorem dL_law_244 : decode cL_law 244 = .ok (.iaload, 1) := by decide +kernel
theorem dL_law_245 : decode cL_law 245 = .ok (.invokevirtual 27, 3) := by decide +kernel
theorem dL_law_248 : decode cL_law 248 = .ok (.if_icmp .eq 549, 3) := by decide +kernel
theorem dL_law_251 : decode cL_law 251 = .ok (.iconst 0, 1) := by decide +kernel
theorem dL_law_252 : decode cL_law 252 = .ok (.ireturn, 1) := by decide +kernel
theorem dL_law_253 : decode cL_law 253 = .ok (.aload_n 1, 1) := by decide +kernel
theorem dL_law_254 : decode cL_law 254 = .ok (.aload_n 0, 1) := by decide +kernel
theorem dL_law_255 : decode cL_law 255 = .ok (.iload_n 3, 1) := by decide +kernel
theorem dL_law_256 : decode cL_law 256 = .ok (.iconst 1, 1) := by decide +kernel
