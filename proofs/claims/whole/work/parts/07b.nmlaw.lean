set_option maxRecDepth 20000 in
theorem ggL_law_X5_init : GoodIn wsL_law wsX5_init := goodIn_r _ [8, 9, 10, 11, 12, 13, 14, 15, 16, 17, 18, 19, 20, 21, 22, 23, 24, 25, 26, 27, 28, 29, 30, 31, 32, 33, 34, 35, 36, 37, 38, 39, 40, 41, 42, 43, 44, 45, 46, 47, 48, 49, 50, 51, 52, 53, 54, 55, 56, 57, 58, 59, 870, 871, 872, 873, 874, 875, 876, 877, 840, 841, 842, 843, 844, 845, 846, 847, 848, 878, 879, 880, 881, 882, 883, 884, 885, 886, 887, 888, 889, 890, 891, 892, 893, 894] (by decide +kernel) (by decide +kernel)
set_option maxRecDepth 20000 in
theorem gL_law_X5_init : GoodIn wsL_law (wsX5_init) := ggL_law_X5_init
set_option maxRecDepth 20000 in
theorem ggL_law_X6_init : GoodIn wsL_law wsX6_init := goodIn_r _ [62, 63, 10, 11, 39, 64, 65, 66, 67, 68, 69, 70, 71, 72, 73, 74, 75, 76, 77, 849, 850, 851, 852, 853, 854, 855, 856, 857, 858, 859, 860, 861, 862, 863, 864, 865, 866, 867, 868, 869] (by decide +kernel) (by decide +kernel)
set_option maxRecDepth 20000 in
theorem gL_law_X6_init : GoodIn wsL_law (wsX6_init) := ggL_law_X6_init
set_option maxRecDepth 20000 in
theorem ggL_law_X5_box : GoodIn wsL_law wsX5_box := goodIn_r _ [81, 15, 82, 83, 84, 2, 85, 24, 23, 86, 87, 88, 22, 89, 57, 58, 90, 91, 92, 93, 59, 94, 95, 96, 97, 98, 31, 99, 100, 101, 102, 103, 104, 105, 106, 107, 108, 109, 110, 14, 111, 38, 112, 113, 114, 115, 116, 117, 118, 119, 120, 121, 122, 123, 124, 125, 126, 127, 128, 129, 130, 131, 132, 133, 134, 25, 840, 841, 842, 843, 844, 845, 846, 847, 848, 886, 887, 888, 889, 890, 891, 892, 893, 894, 870, 871, 872, 873, 874, 875, 876, 877] (by decide +kernel) (by decide +kernel)
set_option maxRecDepth 20000 in
theorem gL_law_X5_box : GoodIn wsL_law (wsV RL 13 RX5 yX5_box wsX5_box) := goodIn_app (goodIn_of _ (by decide +kernel)) ggL_law_X5_box
set_option maxRecDepth 20000 in
theorem ggL_law_X6_box : GoodIn wsL_law wsX6_box := goodIn_r _ [138, 64, 139, 140, 141, 5, 142, 67, 143, 144, 145, 146, 147, 66, 148, 149, 150, 151, 152, 153, 154, 155, 849, 850, 851, 852, 853, 854, 855, 856, 857, 858, 859, 860, 861, 862, 863, 864, 865, 866, 867, 868, 869] (by decide +kernel) (by decide +kernel)
set_option maxRecDepth 20000 in
theorem gL_law_X6_box : GoodIn wsL_law (wsV RL 17 RX6 yX6_box wsX6_box) := goodIn_app (goodIn_of _ (by decide +kernel)) ggL_law_X6_box
set_option maxRecDepth 20000 in
theorem ggL_law_X5_sets : GoodIn wsL_law wsX5_sets := goodIn_r _ [159, 82, 83, 84, 2, 85, 24, 23, 86, 87, 88, 22, 89, 57, 58, 90, 91, 92, 93, 59, 94, 95, 96, 97, 98, 31, 99, 100, 101, 102, 103, 104, 105, 106, 107, 160, 161, 162, 163, 164, 165, 166, 167, 117, 118, 168, 169, 170, 171, 172, 173, 174, 175, 176, 177, 178, 179, 180, 181, 182, 119, 120, 121, 122, 123, 124, 125, 126, 127, 128, 129, 130, 131, 132, 133, 134, 25, 840, 841, 842, 843, 844, 845, 846, 847, 848, 886, 887, 888, 889, 890, 891, 892, 893, 894] (by decide +kernel) (by decide +kernel)
set_option maxRecDepth 20000 in
theorem gL_law_X5_sets : GoodIn wsL_law (wsV RL 18 RX5 yX5_sets wsX5_sets) := goodIn_app (goodIn_of _ (by decide +kernel)) ggL_law_X5_sets
set_option maxRecDepth 20000 in
theorem ggL_law_X6_sets : GoodIn wsL_law wsX6_sets := goodIn_r _ [186, 187, 188, 189, 5, 190, 64, 191, 192, 193, 194, 195, 196, 197, 198, 199, 200, 67, 143, 144, 145, 146, 147, 66, 152, 153, 154, 155, 201, 202, 203, 204, 205, 206, 207, 208, 209, 210, 849, 850, 851, 852, 853, 854, 855, 856, 857, 858, 859, 860, 861, 862, 863, 864, 865, 866, 867, 868, 869] (by decide +kernel) (by decide +kernel)
set_option maxRecDepth 20000 in
theorem gL_law_X6_sets : GoodIn wsL_law (wsV RL 22 RX6 yX6_sets wsX6_sets) := goodIn_app (goodIn_of _ (by decide +kernel)) ggL_law_X6_sets
set_option maxRecDepth 20000 in
theorem ggL_law_X5_errs : GoodIn wsL_law wsX5_errs := goodIn_r _ [214, 82, 83, 84, 2, 85, 24, 23, 86, 87, 88, 22, 89, 57, 58, 90, 91, 92, 93, 59, 94, 95, 96, 97, 98, 31, 99, 100, 101, 102, 103, 104, 105, 106, 107, 215, 216, 217, 218, 117, 118, 168, 169, 170, 171, 176, 177, 178, 119, 120, 121, 122, 123, 124, 125, 126, 127, 128, 129, 130, 131, 132, 133, 134, 25, 840, 841, 842, 843, 844, 845, 846, 847, 848, 886, 887, 888, 889, 890, 891, 892, 893, 894] (by decide +kernel) (by decide +kernel)
set_option maxRecDepth 20000 in
theorem gL_law_X5_errs : GoodIn wsL_law (wsV RL 23 RX5 yX5_errs wsX5_errs) := goodIn_app (goodIn_of _ (by decide +kernel)) ggL_law_X5_errs
set_option maxRecDepth 20000 in
theorem ggL_law_X6_errs : GoodIn wsL_law wsX6_errs := goodIn_r _ [222, 223, 224, 5, 225, 191, 192, 193, 194, 195, 196, 197, 198, 199, 200, 67, 143, 144, 145, 146, 147, 66, 64, 201, 202, 203, 204, 205, 206, 207, 208, 209, 210, 849, 850, 851, 852, 853, 854, 855, 856, 857, 858, 859, 860, 861, 862, 863, 864, 865, 866, 867, 868, 869] (by decide +kernel) (by decide +kernel)
set_option maxRecDepth 20000 in
theorem gL_law_X6_errs : GoodIn wsL_law (wsV RL 27 RX6 yX6_errs wsX6_errs) := goodIn_app (goodIn_of _ (by decide +kernel)) ggL_law_X6_errs
set_option maxRecDepth 20000 in
theorem ggL_law_X5_drops : GoodIn wsL_law wsX5_drops := goodIn_r _ [229, 82, 83, 84, 2, 85, 24, 23, 86, 87, 88, 22, 89, 57, 58, 90, 91, 92, 93, 59, 94, 95, 96, 97, 98, 31, 99, 100, 101, 102, 103, 104, 105, 106, 107, 230, 231, 232, 233, 164, 165, 166, 167, 117, 118, 119, 120, 121, 122, 123, 124, 125, 126, 127, 128, 129, 130, 131, 132, 133, 134, 25, 840, 841, 842, 843, 844, 845, 846, 847, 848, 886, 887, 888, 889, 890, 891, 892, 893, 894] (by decide +kernel) (by decide +kernel)
set_option maxRecDepth 20000 in
theorem gL_law_X5_drops : GoodIn wsL_law (wsV RL 28 RX5 yX5_drops wsX5_drops) := goodIn_app (goodIn_of _ (by decide +kernel)) ggL_law_X5_drops
set_option maxRecDepth 20000 in
theorem ggL_law_X6_drops : GoodIn wsL_law wsX6_drops := goodIn_r _ [237, 64, 187, 188, 189, 5, 190, 191, 192, 193, 197, 198, 199, 200, 67, 143, 144, 145, 146, 147, 66, 152, 153, 154, 155, 849, 850, 851, 852, 853, 854, 855, 856, 857, 858, 859, 860, 861, 862, 863, 864, 865, 866, 867, 868, 869] (by decide +kernel) (by decide +kernel)
set_option maxRecDepth 20000 in
theorem gL_law_X6_drops : GoodIn wsL_law (wsV RL 32 RX6 yX6_drops wsX6_drops) := goodIn_app (goodIn_of _ (by decide +kernel)) ggL_law_X6_drops
set_option maxRecDepth 20000 in
theorem ggL_law_X5_of : GoodIn wsL_law wsX5_of := goodIn_r _ [241, 23, 242, 243, 165, 166, 22, 167, 94, 117, 2, 118, 244, 123, 124, 125, 126, 127, 128, 129, 245, 173, 174, 31, 175, 100, 101, 102, 103, 840, 841, 842, 843, 844, 845, 846, 847, 848, 886, 887, 888, 889, 890, 891, 892, 893, 894] (by decide +kernel) (by decide +kernel)
set_option maxRecDepth 20000 in
theorem gL_law_X5_of : GoodIn wsL_law (wsV RL 33 RX5 yX5_of wsX5_of) := goodIn_app (goodIn_of _ (by decide +kernel)) ggL_law_X5_of
set_option maxRecDepth 20000 in
theorem ggL_law_X6_of : GoodIn wsL_law wsX6_of := goodIn_r _ [249, 64, 187, 188, 189, 5, 190, 191, 192, 193, 152, 153, 154, 155, 197, 198, 199, 200, 67, 849, 850, 851, 852, 853, 854, 855, 856, 857, 858, 859, 860, 861, 862, 863, 864, 865, 866, 867, 868, 869] (by decide +kernel) (by decide +kernel)
set_option maxRecDepth 20000 in
theorem gL_law_X6_of : GoodIn wsL_law (wsV RL 37 RX6 yX6_of wsX6_of) := goodIn_app (goodIn_of _ (by decide +kernel)) ggL_law_X6_of
set_option maxRecDepth 20000 in
theorem ggL_law_X5_error : GoodIn wsL_law wsX5_error := goodIn_r _ [253, 23, 254, 244, 117, 2, 118, 123, 124, 125, 126, 127, 128, 129, 840, 841, 842, 843, 844, 845, 846, 847, 848, 886, 887, 888, 889, 890] (by decide +kernel) (by decide +kernel)
set_option maxRecDepth 20000 in
theorem gL_law_X5_error : GoodIn wsL_law (wsV RL 38 RX5 yX5_error wsX5_error) := goodIn_app (goodIn_of _ (by decide +kernel)) ggL_law_X5_error
set_option maxRecDepth 20000 in
theorem ggL_law_X6_error : GoodIn wsL_law wsX6_error := goodIn_r _ [258, 64, 223, 224, 5, 225, 191, 192, 193, 197, 198, 199, 200, 67, 849, 850, 851, 852, 853, 854, 855, 856, 857, 858, 859, 860, 861, 862, 863, 864, 865, 866, 867, 868, 869] (by decide +kernel) (by decide +kernel)
set_option maxRecDepth 20000 in
theorem gL_law_X6_error : GoodIn wsL_law (wsV RL 41 RX6 yX6_error wsX6_error) := goodIn_app (goodIn_of _ (by decide +kernel)) ggL_law_X6_error
set_option maxRecDepth 20000 in
theorem ggL_law_X5_told : GoodIn wsL_law wsX5_told := goodIn_r _ [262, 15, 23, 263, 264, 265, 14, 266, 267, 268, 33, 269, 165, 166, 22, 167, 94, 117, 2, 118, 270, 271, 272, 273, 274, 275, 276, 277, 278, 279, 280, 31, 281, 100, 103, 101, 102, 282, 283, 170, 284, 285, 177, 178, 286, 287, 288, 289, 290, 291, 292, 293, 294, 295, 296, 297, 298, 299, 112, 105, 106, 107, 300, 173, 174, 175, 123, 124, 125, 126, 127, 128, 129, 840, 841, 842, 843, 844, 845, 846, 847, 848, 886, 887, 888, 889, 890, 870, 871, 872, 873, 874, 875, 876, 877, 891, 892, 893, 894] (by decide +kernel) (by decide +kernel)
set_option maxRecDepth 20000 in
theorem gL_law_X5_told : GoodIn wsL_law (wsV RL 42 RX5 yX5_told wsX5_told) := goodIn_app (goodIn_of _ (by decide +kernel)) ggL_law_X5_told
set_option maxRecDepth 20000 in
theorem ggL_law_X6_told : GoodIn wsL_law wsX6_told := goodIn_r _ [304, 305, 69, 187, 188, 189, 5, 190, 64, 191, 192, 193, 197, 198, 199, 200, 67, 306, 307, 308, 309, 152, 153, 154, 155, 310, 311, 312, 313, 314, 315, 316, 317, 318, 319, 201, 202, 203, 204, 205, 206, 320, 321, 322, 323, 324, 325, 326, 327, 328, 329, 330, 331, 332, 333, 334, 335, 336, 337, 338, 339, 340, 341, 342, 343, 344, 345, 346, 347, 348, 349, 350, 849, 850, 851, 852, 853, 854, 855, 856, 857, 858, 859, 860, 861, 862, 863, 864, 865, 866, 867, 868, 869] (by decide +kernel) (by decide +kernel)
set_option maxRecDepth 20000 in
theorem gL_law_X6_told : GoodIn wsL_law (wsV RL 45 RX6 yX6_told wsX6_told) := goodIn_app (goodIn_of _ (by decide +kernel)) ggL_law_X6_told
set_option maxRecDepth 20000 in
theorem ggL_law_X5_learns : GoodIn wsL_law wsX5_learns := goodIn_r _ [354, 15, 82, 83, 84, 2, 85, 24, 23, 86, 87, 88, 22, 89, 57, 58, 90, 91, 92, 93, 59, 94, 95, 96, 97, 98, 31, 99, 100, 101, 102, 103, 104, 105, 106, 107, 355, 356, 357, 14, 358, 267, 40, 359, 360, 361, 362, 363, 364, 365, 32, 33, 274, 277, 275, 276, 112, 270, 271, 272, 273, 278, 279, 280, 281, 282, 283, 170, 284, 285, 177, 178, 286, 287, 288, 289, 290, 291, 292, 293, 294, 295, 296, 297, 298, 299, 366, 367, 368, 369, 370, 371, 372, 373, 374, 375, 376, 377, 378, 379, 380, 381, 382, 383, 384, 385, 386, 119, 120, 121, 122, 123, 124, 125, 126, 127, 128, 129, 130, 131, 132, 133, 134, 25, 840, 841, 842, 843, 844, 845, 846, 847, 848, 886, 887, 888, 889, 890, 891, 892, 893, 894, 870, 871, 872, 873, 874, 875, 876, 877] (by decide +kernel) (by decide +kernel)
set_option maxRecDepth 20000 in
theorem gL_law_X5_learns : GoodIn wsL_law (wsV RL 46 RX5 yX5_learns wsX5_learns) := goodIn_app (goodIn_of _ (by decide +kernel)) ggL_law_X5_learns
set_option maxRecDepth 20000 in
theorem ggL_law_X6_learns : GoodIn wsL_law wsX6_learns := goodIn_r _ [390, 391, 392, 393, 5, 394, 305, 395, 396, 397, 398, 70, 69, 399, 310, 311, 312, 313, 314, 315, 316, 317, 318, 319, 201, 202, 203, 204, 205, 206, 320, 321, 322, 323, 324, 325, 326, 64, 327, 328, 329, 330, 331, 332, 333, 334, 335, 336, 337, 338, 339, 340, 341, 342, 343, 344, 345, 346, 400, 401, 402, 403, 404, 405, 406, 407, 347, 348, 349, 350, 67, 143, 144, 145, 146, 147, 66, 408, 409, 410, 411, 849, 850, 851, 852, 853, 854, 855, 856, 857, 858, 859, 860, 861, 862, 863, 864, 865, 866, 867, 868, 869] (by decide +kernel) (by decide +kernel)
set_option maxRecDepth 20000 in
theorem gL_law_X6_learns : GoodIn wsL_law (wsV RL 49 RX6 yX6_learns wsX6_learns) := goodIn_app (goodIn_of _ (by decide +kernel)) ggL_law_X6_learns
set_option maxRecDepth 20000 in
theorem ggL_law_X5_learnt : GoodIn wsL_law wsX5_learnt := goodIn_r _ [415, 23, 416, 417, 244, 117, 2, 118, 123, 124, 125, 126, 127, 128, 129, 840, 841, 842, 843, 844, 845, 846, 847, 848, 886, 887, 888, 889, 890] (by decide +kernel) (by decide +kernel)
set_option maxRecDepth 20000 in
theorem gL_law_X5_learnt : GoodIn wsL_law (wsV RL 50 RX5 yX5_learnt wsX5_learnt) := goodIn_app (goodIn_of _ (by decide +kernel)) ggL_law_X5_learnt
set_option maxRecDepth 20000 in
theorem ggL_law_X6_learnt : GoodIn wsL_law wsX6_learnt := goodIn_r _ [421, 64, 223, 224, 5, 225, 191, 192, 193, 197, 198, 199, 200, 67, 849, 850, 851, 852, 853, 854, 855, 856, 857, 858, 859, 860, 861, 862, 863, 864, 865, 866, 867, 868, 869] (by decide +kernel) (by decide +kernel)
set_option maxRecDepth 20000 in
theorem gL_law_X6_learnt : GoodIn wsL_law (wsV RL 53 RX6 yX6_learnt wsX6_learnt) := goodIn_app (goodIn_of _ (by decide +kernel)) ggL_law_X6_learnt
set_option maxRecDepth 20000 in
theorem ggL_law_X5_reads : GoodIn wsL_law wsX5_reads := goodIn_r _ [425, 15, 82, 83, 84, 2, 85, 24, 23, 86, 87, 88, 22, 89, 57, 58, 90, 91, 92, 93, 59, 94, 95, 96, 97, 98, 31, 99, 100, 101, 102, 103, 104, 105, 106, 107, 426, 427, 428, 14, 429, 361, 267, 268, 359, 38, 269, 165, 166, 167, 117, 118, 270, 271, 272, 273, 274, 275, 33, 276, 277, 278, 279, 280, 281, 282, 283, 170, 284, 285, 177, 178, 286, 287, 288, 289, 290, 291, 292, 293, 294, 295, 296, 297, 298, 299, 112, 430, 431, 432, 433, 34, 434, 435, 436, 437, 438, 439, 440, 441, 442, 113, 114, 115, 116, 119, 120, 121, 122, 123, 124, 125, 126, 127, 128, 129, 130, 131, 132, 133, 134, 25, 840, 841, 842, 843, 844, 845, 846, 847, 848, 886, 887, 888, 889, 890, 891, 892, 893, 894, 870, 871, 872, 873, 874, 875, 876, 877] (by decide +kernel) (by decide +kernel)
set_option maxRecDepth 20000 in
theorem gL_law_X5_reads : GoodIn wsL_law (wsV RL 54 RX5 yX5_reads wsX5_reads) := goodIn_app (goodIn_of _ (by decide +kernel)) ggL_law_X5_reads
