set_option maxRecDepth 20000 in
theorem ggL_law_X6_reads : GoodIn wsL_law wsX6_reads := goodIn_r _ [446, 187, 188, 189, 5, 190, 64, 191, 192, 193, 447, 448, 449, 450, 305, 451, 452, 453, 454, 69, 71, 306, 307, 308, 309, 152, 153, 154, 155, 310, 311, 312, 313, 314, 315, 316, 317, 318, 319, 201, 202, 203, 204, 205, 206, 320, 321, 322, 323, 324, 325, 326, 327, 328, 329, 330, 331, 332, 333, 334, 335, 336, 337, 338, 339, 340, 341, 342, 343, 344, 345, 346, 455, 456, 457, 458, 459, 460, 461, 462, 347, 348, 349, 350, 67, 139, 140, 141, 142, 143, 144, 145, 146, 147, 66, 148, 149, 150, 151, 197, 198, 199, 200, 849, 850, 851, 852, 853, 854, 855, 856, 857, 858, 859, 860, 861, 862, 863, 864, 865, 866, 867, 868, 869] (by decide +kernel) (by decide +kernel)
set_option maxRecDepth 20000 in
theorem gL_law_X6_reads : GoodIn wsL_law (wsV RL 57 RX6 yX6_reads wsX6_reads) := goodIn_app (goodIn_of _ (by decide +kernel)) ggL_law_X6_reads
set_option maxRecDepth 20000 in
theorem ggL_law_X5_chains : GoodIn wsL_law wsX5_chains := goodIn_r _ [466, 15, 82, 83, 84, 2, 85, 24, 23, 86, 87, 88, 22, 89, 57, 58, 90, 91, 92, 93, 59, 94, 95, 96, 97, 98, 31, 99, 100, 101, 102, 103, 104, 105, 106, 107, 467, 468, 469, 14, 470, 35, 268, 36, 37, 38, 269, 165, 166, 167, 117, 118, 471, 472, 473, 474, 475, 279, 280, 281, 282, 283, 170, 284, 285, 177, 178, 286, 287, 288, 476, 439, 440, 441, 442, 295, 296, 297, 298, 299, 477, 478, 479, 480, 481, 482, 483, 484, 485, 292, 293, 486, 487, 488, 489, 113, 114, 115, 116, 119, 120, 121, 122, 123, 124, 125, 126, 127, 128, 129, 130, 131, 132, 133, 134, 25, 840, 841, 842, 843, 844, 845, 846, 847, 848, 886, 887, 888, 889, 890, 891, 892, 893, 894, 870, 871, 872, 873, 874, 875, 876, 877] (by decide +kernel) (by decide +kernel)
set_option maxRecDepth 20000 in
theorem gL_law_X5_chains : GoodIn wsL_law (wsV RL 58 RX5 yX5_chains wsX5_chains) := goodIn_app (goodIn_of _ (by decide +kernel)) ggL_law_X5_chains
set_option maxRecDepth 20000 in
theorem ggL_law_X6_chains : GoodIn wsL_law wsX6_chains := goodIn_r _ [493, 187, 188, 189, 5, 190, 64, 191, 192, 193, 494, 495, 496, 497, 305, 72, 73, 498, 499, 500, 501, 152, 153, 154, 155, 502, 503, 504, 505, 314, 315, 316, 317, 318, 319, 201, 202, 203, 204, 205, 206, 320, 321, 322, 337, 338, 339, 340, 341, 342, 343, 344, 345, 346, 506, 507, 508, 509, 74, 330, 331, 332, 510, 511, 512, 513, 71, 459, 460, 461, 462, 347, 348, 349, 350, 67, 139, 140, 141, 142, 143, 144, 145, 146, 147, 66, 148, 149, 150, 151, 197, 198, 199, 200, 849, 850, 851, 852, 853, 854, 855, 856, 857, 858, 859, 860, 861, 862, 863, 864, 865, 866, 867, 868, 869] (by decide +kernel) (by decide +kernel)
set_option maxRecDepth 20000 in
theorem gL_law_X6_chains : GoodIn wsL_law (wsV RL 61 RX6 yX6_chains wsX6_chains) := goodIn_app (goodIn_of _ (by decide +kernel)) ggL_law_X6_chains
set_option maxRecDepth 20000 in
theorem ggL_law_X5_peels : GoodIn wsL_law wsX5_peels := goodIn_r _ [517, 15, 82, 83, 84, 2, 85, 24, 23, 86, 87, 88, 22, 89, 57, 58, 90, 91, 92, 93, 59, 94, 95, 96, 97, 98, 31, 99, 100, 101, 102, 103, 104, 105, 106, 107, 518, 519, 520, 14, 521, 37, 268, 35, 36, 38, 269, 165, 166, 167, 117, 118, 471, 472, 473, 474, 475, 279, 280, 281, 282, 283, 170, 284, 285, 177, 178, 286, 287, 288, 476, 439, 440, 441, 442, 295, 296, 297, 298, 299, 522, 523, 524, 525, 477, 478, 479, 480, 481, 482, 483, 484, 485, 292, 293, 486, 487, 488, 489, 113, 114, 115, 116, 119, 120, 121, 122, 123, 124, 125, 126, 127, 128, 129, 130, 131, 132, 133, 134, 25, 840, 841, 842, 843, 844, 845, 846, 847, 848, 886, 887, 888, 889, 890, 891, 892, 893, 894, 870, 871, 872, 873, 874, 875, 876, 877] (by decide +kernel) (by decide +kernel)
set_option maxRecDepth 20000 in
theorem gL_law_X5_peels : GoodIn wsL_law (wsV RL 62 RX5 yX5_peels wsX5_peels) := goodIn_app (goodIn_of _ (by decide +kernel)) ggL_law_X5_peels
set_option maxRecDepth 20000 in
theorem ggL_law_X6_peels : GoodIn wsL_law wsX6_peels := goodIn_r _ [529, 187, 188, 189, 5, 190, 64, 191, 192, 193, 530, 531, 532, 533, 305, 72, 73, 74, 498, 499, 500, 501, 152, 153, 154, 155, 502, 503, 504, 505, 314, 315, 316, 317, 318, 319, 201, 202, 203, 204, 205, 206, 320, 321, 322, 337, 338, 339, 340, 341, 342, 343, 344, 345, 346, 534, 535, 536, 537, 506, 507, 508, 509, 330, 331, 332, 538, 539, 540, 541, 510, 511, 512, 513, 71, 459, 460, 461, 462, 347, 348, 349, 350, 67, 139, 140, 141, 142, 143, 144, 145, 146, 147, 66, 148, 149, 150, 151, 197, 198, 199, 200, 849, 850, 851, 852, 853, 854, 855, 856, 857, 858, 859, 860, 861, 862, 863, 864, 865, 866, 867, 868, 869] (by decide +kernel) (by decide +kernel)
set_option maxRecDepth 20000 in
theorem gL_law_X6_peels : GoodIn wsL_law (wsV RL 65 RX6 yX6_peels wsX6_peels) := goodIn_app (goodIn_of _ (by decide +kernel)) ggL_law_X6_peels
set_option maxRecDepth 20000 in
theorem ggL_law_X5_turns : GoodIn wsL_law wsX5_turns := goodIn_r _ [545, 15, 82, 83, 84, 2, 85, 24, 23, 86, 87, 88, 22, 89, 57, 58, 90, 91, 92, 93, 59, 94, 95, 96, 97, 98, 31, 99, 100, 101, 102, 103, 104, 105, 106, 107, 546, 547, 548, 14, 549, 268, 38, 275, 277, 276, 274, 269, 165, 166, 167, 117, 118, 112, 113, 114, 115, 116, 119, 120, 121, 122, 123, 124, 125, 126, 127, 128, 129, 130, 131, 132, 133, 134, 25, 840, 841, 842, 843, 844, 845, 846, 847, 848, 886, 887, 888, 889, 890, 891, 892, 893, 894, 870, 871, 872, 873, 874, 875, 876, 877] (by decide +kernel) (by decide +kernel)
set_option maxRecDepth 20000 in
theorem gL_law_X5_turns : GoodIn wsL_law (wsV RL 66 RX5 yX5_turns wsX5_turns) := goodIn_app (goodIn_of _ (by decide +kernel)) ggL_law_X5_turns
set_option maxRecDepth 20000 in
theorem ggL_law_X6_turns : GoodIn wsL_law wsX6_turns := goodIn_r _ [553, 71, 64, 187, 188, 189, 5, 190, 191, 192, 193, 197, 198, 199, 200, 67, 152, 153, 154, 155, 459, 460, 461, 462, 347, 348, 349, 350, 139, 140, 141, 142, 143, 144, 145, 146, 147, 66, 148, 149, 150, 151, 849, 850, 851, 852, 853, 854, 855, 856, 857, 858, 859, 860, 861, 862, 863, 864, 865, 866, 867, 868, 869] (by decide +kernel) (by decide +kernel)
set_option maxRecDepth 20000 in
theorem gL_law_X6_turns : GoodIn wsL_law (wsV RL 69 RX6 yX6_turns wsX6_turns) := goodIn_app (goodIn_of _ (by decide +kernel)) ggL_law_X6_turns
set_option maxRecDepth 20000 in
theorem ggL_law_X5_form : GoodIn wsL_law wsX5_form := goodIn_r _ [557, 15, 23, 558, 559, 560, 14, 561, 35, 268, 269, 165, 166, 22, 167, 94, 117, 2, 118, 471, 472, 473, 31, 474, 102, 100, 103, 475, 279, 280, 281, 101, 282, 283, 170, 284, 285, 177, 178, 286, 287, 288, 104, 105, 106, 107, 476, 439, 440, 441, 442, 295, 296, 297, 298, 299, 562, 563, 564, 565, 566, 292, 293, 522, 523, 524, 525, 300, 173, 174, 175, 123, 124, 125, 126, 127, 128, 129, 840, 841, 842, 843, 844, 845, 846, 847, 848, 870, 871, 872, 873, 874, 875, 876, 877, 886, 887, 888, 889, 890, 891, 892, 893, 894] (by decide +kernel) (by decide +kernel)
set_option maxRecDepth 20000 in
theorem gL_law_X5_form : GoodIn wsL_law (wsV RL 70 RX5 yX5_form wsX5_form) := goodIn_app (goodIn_of _ (by decide +kernel)) ggL_law_X5_form
set_option maxRecDepth 20000 in
theorem ggL_law_X6_form : GoodIn wsL_law wsX6_form := goodIn_r _ [570, 305, 72, 187, 188, 189, 5, 190, 64, 191, 192, 193, 197, 198, 199, 200, 67, 498, 499, 500, 501, 152, 153, 154, 155, 502, 503, 504, 505, 314, 315, 316, 317, 318, 319, 201, 202, 203, 204, 205, 206, 320, 321, 322, 337, 338, 339, 340, 341, 342, 343, 344, 345, 346, 571, 572, 573, 574, 330, 331, 332, 534, 535, 536, 537, 347, 348, 349, 350, 849, 850, 851, 852, 853, 854, 855, 856, 857, 858, 859, 860, 861, 862, 863, 864, 865, 866, 867, 868, 869] (by decide +kernel) (by decide +kernel)
set_option maxRecDepth 20000 in
theorem gL_law_X6_form : GoodIn wsL_law (wsV RL 73 RX6 yX6_form wsX6_form) := goodIn_app (goodIn_of _ (by decide +kernel)) ggL_law_X6_form
set_option maxRecDepth 20000 in
theorem ggL_law_X5_det : GoodIn wsL_law wsX5_det := goodIn_r _ [578, 23, 242, 243, 165, 166, 22, 167, 94, 117, 2, 118, 123, 124, 125, 126, 127, 128, 129, 579, 279, 280, 31, 281, 100, 103, 101, 102, 282, 283, 170, 284, 285, 177, 178, 286, 287, 288, 840, 841, 842, 843, 844, 845, 846, 847, 848, 886, 887, 888, 889, 890, 891, 892, 893, 894] (by decide +kernel) (by decide +kernel)
set_option maxRecDepth 20000 in
theorem gL_law_X5_det : GoodIn wsL_law (wsV RL 74 RX5 yX5_det wsX5_det) := goodIn_app (goodIn_of _ (by decide +kernel)) ggL_law_X5_det
set_option maxRecDepth 20000 in
theorem ggL_law_X6_det : GoodIn wsL_law wsX6_det := goodIn_r _ [583, 187, 188, 189, 5, 190, 64, 191, 192, 193, 502, 503, 504, 505, 152, 153, 154, 155, 314, 315, 316, 317, 318, 319, 201, 202, 203, 204, 205, 206, 320, 321, 322, 197, 198, 199, 200, 67, 849, 850, 851, 852, 853, 854, 855, 856, 857, 858, 859, 860, 861, 862, 863, 864, 865, 866, 867, 868, 869] (by decide +kernel) (by decide +kernel)
set_option maxRecDepth 20000 in
theorem gL_law_X6_det : GoodIn wsL_law (wsV RL 77 RX6 yX6_det wsX6_det) := goodIn_app (goodIn_of _ (by decide +kernel)) ggL_law_X6_det
set_option maxRecDepth 20000 in
theorem ggL_law_X5_ends : GoodIn wsL_law wsX5_ends := goodIn_r _ [587, 23, 242, 243, 165, 166, 22, 167, 94, 117, 2, 118, 244, 588, 169, 170, 171, 123, 124, 125, 126, 127, 128, 129, 589, 177, 178, 590, 591, 592, 593, 594, 595, 596, 597, 283, 284, 285, 598, 287, 288, 599, 295, 296, 297, 298, 299, 600, 292, 293, 840, 841, 842, 843, 844, 845, 846, 847, 848, 886, 887, 888, 889, 890, 891, 892, 893, 894] (by decide +kernel) (by decide +kernel)
set_option maxRecDepth 20000 in
theorem gL_law_X5_ends : GoodIn wsL_law (wsV RL 78 RX5 yX5_ends wsX5_ends) := goodIn_app (goodIn_of _ (by decide +kernel)) ggL_law_X5_ends
set_option maxRecDepth 20000 in
theorem ggL_law_X6_ends : GoodIn wsL_law wsX6_ends := goodIn_r _ [604, 64, 305, 187, 188, 189, 5, 190, 191, 192, 193, 194, 195, 196, 197, 198, 199, 200, 67, 152, 153, 154, 155, 201, 202, 203, 204, 205, 206, 317, 318, 319, 320, 321, 322, 337, 338, 339, 340, 341, 342, 343, 344, 345, 346, 347, 348, 349, 350, 330, 331, 332, 849, 850, 851, 852, 853, 854, 855, 856, 857, 858, 859, 860, 861, 862, 863, 864, 865, 866, 867, 868, 869] (by decide +kernel) (by decide +kernel)
set_option maxRecDepth 20000 in
theorem gL_law_X6_ends : GoodIn wsL_law (wsV RL 81 RX6 yX6_ends wsX6_ends) := goodIn_app (goodIn_of _ (by decide +kernel)) ggL_law_X6_ends
set_option maxRecDepth 20000 in
theorem ggL_law_X5_test : GoodIn wsL_law wsX5_test := goodIn_r _ [608, 23, 242, 243, 165, 166, 22, 167, 94, 117, 2, 118, 244, 123, 124, 125, 126, 127, 128, 129, 609, 610, 611, 595, 596, 593, 594, 612, 613, 614, 615, 616, 170, 617, 285, 177, 178, 618, 482, 483, 484, 283, 284, 485, 292, 293, 840, 841, 842, 843, 844, 845, 846, 847, 848, 886, 887, 888, 889, 890, 891, 892, 893, 894] (by decide +kernel) (by decide +kernel)
set_option maxRecDepth 20000 in
theorem gL_law_X5_test : GoodIn wsL_law (wsV RL 82 RX5 yX5_test wsX5_test) := goodIn_app (goodIn_of _ (by decide +kernel)) ggL_law_X5_test
set_option maxRecDepth 20000 in
theorem ggL_law_X6_test : GoodIn wsL_law wsX6_test := goodIn_r _ [622, 187, 188, 189, 5, 190, 64, 191, 192, 193, 623, 624, 625, 626, 152, 153, 154, 155, 627, 628, 629, 630, 631, 632, 633, 634, 344, 345, 346, 201, 202, 203, 204, 205, 206, 317, 318, 319, 330, 331, 332, 197, 198, 199, 200, 67, 849, 850, 851, 852, 853, 854, 855, 856, 857, 858, 859, 860, 861, 862, 863, 864, 865, 866, 867, 868, 869] (by decide +kernel) (by decide +kernel)
set_option maxRecDepth 20000 in
theorem gL_law_X6_test : GoodIn wsL_law (wsV RL 85 RX6 yX6_test wsX6_test) := goodIn_app (goodIn_of _ (by decide +kernel)) ggL_law_X6_test
set_option maxRecDepth 20000 in
theorem ggL_law_X5_like : GoodIn wsL_law wsX5_like := goodIn_r _ [638, 23, 243, 165, 166, 22, 167, 94, 117, 2, 118, 123, 124, 125, 126, 127, 128, 129, 639, 640, 641, 642, 57, 643, 644, 645, 31, 646, 100, 101, 102, 103, 840, 841, 842, 843, 844, 845, 846, 847, 848, 886, 887, 888, 889, 890, 891, 892, 893, 894] (by decide +kernel) (by decide +kernel)
set_option maxRecDepth 20000 in
theorem gL_law_X5_like : GoodIn wsL_law (wsV RL 86 RX5 yX5_like wsX5_like) := goodIn_app (goodIn_of _ (by decide +kernel)) ggL_law_X5_like
set_option maxRecDepth 20000 in
theorem ggL_law_X6_like : GoodIn wsL_law wsX6_like := goodIn_r _ [650, 187, 188, 189, 5, 190, 64, 191, 192, 193, 651, 652, 653, 654, 152, 153, 154, 155, 197, 198, 199, 200, 67, 849, 850, 851, 852, 853, 854, 855, 856, 857, 858, 859, 860, 861, 862, 863, 864, 865, 866, 867, 868, 869] (by decide +kernel) (by decide +kernel)
set_option maxRecDepth 20000 in
theorem gL_law_X6_like : GoodIn wsL_law (wsV RL 89 RX6 yX6_like wsX6_like) := goodIn_app (goodIn_of _ (by decide +kernel)) ggL_law_X6_like
set_option maxRecDepth 20000 in
theorem ggL_law_X5_type : GoodIn wsL_law wsX5_type := goodIn_r _ [658, 19, 659, 660, 661, 18, 662, 663, 48, 117, 2, 118, 123, 124, 125, 126, 127, 128, 129, 840, 841, 842, 843, 844, 845, 846, 847, 848, 878, 879, 880, 881, 882, 883, 884, 885] (by decide +kernel) (by decide +kernel)
set_option maxRecDepth 20000 in
theorem gL_law_X5_type : GoodIn wsL_law (wsV RL 90 RX5 yX5_type wsX5_type) := goodIn_app (goodIn_of _ (by decide +kernel)) ggL_law_X5_type
set_option maxRecDepth 20000 in
theorem ggL_law_X6_type : GoodIn wsL_law wsX6_type := goodIn_r _ [667, 668, 68, 191, 192, 5, 193, 197, 198, 199, 200, 67, 139, 140, 141, 142, 849, 850, 851, 852, 853, 854, 855, 856, 857, 858, 859, 860, 861, 862, 863, 864, 865, 866, 867, 868, 869] (by decide +kernel) (by decide +kernel)
set_option maxRecDepth 20000 in
theorem gL_law_X6_type : GoodIn wsL_law (wsV RL 93 RX6 yX6_type wsX6_type) := goodIn_app (goodIn_of _ (by decide +kernel)) ggL_law_X6_type
set_option maxRecDepth 20000 in
theorem ggL_law_X5_clear : GoodIn wsL_law wsX5_clear := goodIn_r _ [672, 19, 673, 674, 675, 18, 676, 663, 840, 841, 842, 843, 844, 845, 846, 847, 848, 878, 879, 880, 881, 882, 883, 884, 885] (by decide +kernel) (by decide +kernel)
set_option maxRecDepth 20000 in
theorem gL_law_X5_clear : GoodIn wsL_law (wsV RL 94 RX5 yX5_clear wsX5_clear) := goodIn_app (goodIn_of _ (by decide +kernel)) ggL_law_X5_clear
set_option maxRecDepth 20000 in
theorem ggL_law_X6_clear : GoodIn wsL_law wsX6_clear := goodIn_r _ [680, 668, 849, 850, 851, 852, 853, 854, 855, 856, 857, 858, 859, 860, 861, 862, 863, 864, 865, 866, 867, 868, 869] (by decide +kernel) (by decide +kernel)
set_option maxRecDepth 20000 in
theorem gL_law_X6_clear : GoodIn wsL_law (wsV RL 97 RX6 yX6_clear wsX6_clear) := goodIn_app (goodIn_of _ (by decide +kernel)) ggL_law_X6_clear
