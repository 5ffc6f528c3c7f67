set_option maxRecDepth 20000 in
theorem ggL_law_X4_init : GoodIn wsL_law wsX4_init := goodIn_r _ [9, 10, 11, 12, 13, 14, 15, 16, 17, 18, 19, 20, 21, 22, 23, 24, 25, 26, 27, 28, 816, 817, 818, 819, 820, 821, 822, 823, 834, 835, 836, 837] (by decide +kernel) (by decide +kernel)
set_option maxRecDepth 20000 in
theorem gL_law_X4_init : GoodIn wsL_law (wsX4_init) := ggL_law_X4_init
set_option maxRecDepth 20000 in
theorem ggL_law_X5_init : GoodIn wsL_law wsX5_init := goodIn_r _ [31, 32, 11, 12, 33, 34, 35, 36, 37, 13, 38, 39, 40, 6, 41, 42, 43, 5, 44, 45, 46, 47, 824, 825, 826, 827, 828, 829, 830, 831, 832, 833] (by decide +kernel) (by decide +kernel)
set_option maxRecDepth 20000 in
theorem gL_law_X5_init : GoodIn wsL_law (wsX5_init) := ggL_law_X5_init
set_option maxRecDepth 20000 in
theorem ggL_law_L_later : GoodIn wsL_law wsL_later := goodIn_ca (goodIn_r _ [51, 52, 53, 54, 55, 2, 56, 57, 58, 59, 60, 61, 62, 63, 64, 65, 66, 67, 68, 69, 70, 71, 72, 73, 74, 75, 76, 77, 78, 79, 80, 81, 82, 83, 84, 85, 86, 87] (by decide +kernel) (by decide +kernel)) (goodIn_sub (fun _ h => List.mem_append_left _ (List.mem_append_left _ (List.mem_append_right _ h))) (by decide +kernel))
set_option maxRecDepth 20000 in
theorem gL_law_L_later : GoodIn wsL_law (va_wsS RL 91 yL_later wsL_later) := goodIn_app (goodIn_of _ (by decide +kernel)) ggL_law_L_later
set_option maxRecDepth 20000 in
theorem ggL_law_X5_later : GoodIn wsL_law wsX5_later := goodIn_r _ [91, 92, 93, 94, 95, 5, 96, 97, 98, 99, 100, 45, 46, 47, 101, 102, 103, 104, 42, 43, 44, 105, 106, 107, 824, 825, 826, 827, 828, 829, 830, 831, 832, 833] (by decide +kernel) (by decide +kernel)
set_option maxRecDepth 20000 in
theorem gL_law_X5_later : GoodIn wsL_law (wsV RL 96 RX5 yX5_later wsX5_later) := goodIn_app (goodIn_of _ (by decide +kernel)) ggL_law_X5_later
set_option maxRecDepth 20000 in
theorem ggL_law_X5_thrown : GoodIn wsL_law wsX5_thrown := goodIn_r _ [111, 92, 824, 825, 826, 827, 828, 829, 830, 831, 832, 833] (by decide +kernel) (by decide +kernel)
set_option maxRecDepth 20000 in
theorem gL_law_X5_thrown : GoodIn wsL_law (wsV RL 97 RX5 yX5_thrown wsX5_thrown) := goodIn_app (goodIn_of _ (by decide +kernel)) ggL_law_X5_thrown
set_option maxRecDepth 20000 in
theorem ggL_law_L_weekday : GoodIn wsL_law wsL_weekday := goodIn_ca (goodIn_r _ [114, 52, 115, 116, 117, 2, 118, 60, 61, 62, 57, 58, 63, 64, 65, 66, 67, 68, 69, 70, 71, 72, 73, 74, 75, 76, 77, 78, 79, 80, 81, 82, 83, 84, 119, 120, 121] (by decide +kernel) (by decide +kernel)) (goodIn_sub (fun _ h => List.mem_append_left _ (List.mem_append_left _ (List.mem_append_right _ h))) (by decide +kernel))
set_option maxRecDepth 20000 in
theorem gL_law_L_weekday : GoodIn wsL_law (va_wsS RL 101 yL_weekday wsL_weekday) := goodIn_app (goodIn_of _ (by decide +kernel)) ggL_law_L_weekday
set_option maxRecDepth 20000 in
theorem ggL_law_X5_weekday_ : GoodIn wsL_law wsX5_weekday_ := goodIn_r _ [125, 92, 94, 95, 5, 96, 97, 93, 98, 99, 100, 45, 46, 47, 42, 43, 44, 126, 127, 128, 101, 102, 103, 104, 824, 825, 826, 827, 828, 829, 830, 831, 832, 833] (by decide +kernel) (by decide +kernel)
set_option maxRecDepth 20000 in
theorem gL_law_X5_weekday_ : GoodIn wsL_law (wsV RL 104 RX5 yX5_weekday_ wsX5_weekday_) := goodIn_app (goodIn_of _ (by decide +kernel)) ggL_law_X5_weekday_
set_option maxRecDepth 20000 in
theorem ggL_law_L_addHoliday : GoodIn wsL_law wsL_addHoliday := goodIn_ca (goodIn_ca (goodIn_r _ [131, 52, 132, 133, 134, 135, 2, 136, 137, 138, 139, 14, 60, 61, 62, 57, 58, 63, 64, 65, 66, 67, 68, 69, 70, 71, 72, 73, 74, 75, 76, 77, 78, 79, 80, 140, 141, 142, 143, 816, 817, 818, 819, 820, 821, 822, 823] (by decide +kernel) (by decide +kernel)) (goodIn_sub (fun _ h => List.mem_append_left _ (List.mem_append_right _ h)) (by decide +kernel))) (goodIn_sub (fun _ h => List.mem_append_left _ (List.mem_append_left _ (List.mem_append_right _ h))) (by decide +kernel))
set_option maxRecDepth 20000 in
theorem gL_law_L_addHoliday : GoodIn wsL_law (va_wsS RL 105 yL_addHoliday wsL_addHoliday) := goodIn_app (goodIn_of _ (by decide +kernel)) ggL_law_L_addHoliday
set_option maxRecDepth 20000 in
theorem ggL_law_X5_addHoliday : GoodIn wsL_law wsX5_addHoliday := goodIn_r _ [147, 92, 148, 38, 94, 95, 5, 96, 97, 93, 98, 99, 100, 45, 46, 47, 101, 102, 103, 104, 42, 43, 44, 824, 825, 826, 827, 828, 829, 830, 831, 832, 833] (by decide +kernel) (by decide +kernel)
set_option maxRecDepth 20000 in
theorem gL_law_X5_addHoliday : GoodIn wsL_law (wsV RL 107 RX5 yX5_addHoliday wsX5_addHoliday) := goodIn_app (goodIn_of _ (by decide +kernel)) ggL_law_X5_addHoliday
set_option maxRecDepth 20000 in
theorem ggL_law_L_working : GoodIn wsL_law wsL_working := goodIn_ca (goodIn_r _ [151, 52, 152, 153, 154, 2, 155, 57, 58, 156, 60, 61, 62, 63, 64, 65, 66, 67, 68, 69, 70, 71, 72, 73, 74, 75, 76, 77, 78, 79, 80, 157, 158, 159, 160, 81, 82, 83, 84, 161, 162, 163, 164, 119, 120, 121, 85, 86, 87, 140, 141, 142, 143, 14, 816, 817, 818, 819, 820, 821, 822, 823] (by decide +kernel) (by decide +kernel)) (goodIn_sub (fun _ h => List.mem_append_left _ (List.mem_append_left _ (List.mem_append_right _ h))) (by decide +kernel))
set_option maxRecDepth 20000 in
theorem gL_law_L_working : GoodIn wsL_law (va_wsS RL 108 yL_working wsL_working) := goodIn_app (goodIn_of _ (by decide +kernel)) ggL_law_L_working
set_option maxRecDepth 20000 in
theorem ggL_law_X5_working : GoodIn wsL_law wsX5_working := goodIn_r _ [168, 92, 169, 94, 95, 5, 96, 97, 93, 98, 99, 100, 45, 46, 47, 42, 43, 44, 170, 171, 172, 173, 174, 175, 176, 177, 148, 38, 126, 127, 128, 105, 106, 107, 101, 102, 103, 104, 824, 825, 826, 827, 828, 829, 830, 831, 832, 833] (by decide +kernel) (by decide +kernel)
set_option maxRecDepth 20000 in
theorem gL_law_X5_working : GoodIn wsL_law (wsV RL 110 RX5 yX5_working wsX5_working) := goodIn_app (goodIn_of _ (by decide +kernel)) ggL_law_X5_working
set_option maxRecDepth 20000 in
theorem ggL_law_L_addBond : GoodIn wsL_law wsL_addBond := goodIn_ca (goodIn_ca (goodIn_r _ [180, 52, 132, 181, 182, 183, 2, 184, 57, 58, 137, 138, 185, 186, 16, 15, 187, 188, 189, 190, 191, 22, 192, 193, 194, 195, 156, 60, 61, 62, 63, 64, 65, 66, 67, 68, 69, 70, 71, 72, 73, 74, 75, 76, 77, 78, 79, 80, 196, 197, 198, 199, 200, 201, 202, 203, 204, 205, 206, 207, 208, 209, 210, 211, 212, 213, 214, 215, 216, 217, 218, 219, 11, 12, 220, 221, 222, 223, 224, 225, 226, 227, 228, 229, 13, 230, 231, 232, 233, 234, 235, 236, 237, 238, 239, 240, 241, 242, 243, 82, 83, 84, 244, 245, 246, 247, 248, 249, 250, 251, 252, 253, 254, 255, 256, 257, 258, 259, 260, 261, 816, 817, 818, 819, 820, 821, 822, 823, 838, 839, 840, 841, 842, 843, 844, 845, 846, 847, 848, 849, 850, 851, 852, 853, 854, 855] (by decide +kernel) (by decide +kernel)) (goodIn_sub (fun _ h => List.mem_append_left _ (List.mem_append_left _ (List.mem_append_right _ h))) (by decide +kernel))) (goodIn_sub (fun _ h => List.mem_append_left _ (List.mem_append_right _ h)) (by decide +kernel))
set_option maxRecDepth 20000 in
theorem gL_law_L_addBond : GoodIn wsL_law (va_wsS RL 111 yL_addBond wsL_addBond) := goodIn_app (goodIn_of _ (by decide +kernel)) ggL_law_L_addBond
set_option maxRecDepth 20000 in
theorem ggL_law_X5_addBond : GoodIn wsL_law wsX5_addBond := goodIn_r _ [265, 92, 169, 34, 97, 266, 40, 13, 39, 267, 268, 269, 270, 94, 95, 5, 96, 93, 98, 99, 100, 45, 46, 47, 42, 43, 44, 101, 102, 103, 104, 271, 272, 273, 274, 212, 213, 214, 824, 825, 826, 827, 828, 829, 830, 831, 832, 833] (by decide +kernel) (by decide +kernel)
set_option maxRecDepth 20000 in
theorem gL_law_X5_addBond : GoodIn wsL_law (wsV RL 114 RX5 yX5_addBond wsX5_addBond) := goodIn_app (goodIn_of _ (by decide +kernel)) ggL_law_X5_addBond
set_option maxRecDepth 20000 in
theorem ggL_law_L_setSink : GoodIn wsL_law wsL_setSink := goodIn_ca (goodIn_ca (goodIn_ca (goodIn_r _ [277, 278, 52, 132, 279, 280, 281, 2, 282, 57, 58, 283, 284, 285, 286, 287, 288, 289, 290, 291, 292, 16, 60, 61, 62, 63, 64, 65, 66, 67, 68, 69, 70, 71, 72, 73, 74, 75, 76, 77, 78, 79, 80, 293, 294, 295, 137, 138, 296, 297, 298, 188, 299, 300, 301, 302, 303, 304, 256, 257, 305, 306, 307, 308, 255, 309, 310, 311, 312, 212, 213, 214, 838, 839, 840, 841, 842, 843, 844, 845, 846, 847, 848, 849, 850, 851, 852, 853, 854, 855, 816, 817, 818, 819, 820, 821, 822, 823] (by decide +kernel) (by decide +kernel)) (goodIn_sub (fun _ h => List.mem_append_left _ (List.mem_append_left _ (List.mem_append_right _ h))) (by decide +kernel))) (goodIn_sub (fun _ h => List.mem_append_right _ h) (by decide +kernel))) (goodIn_sub (fun _ h => List.mem_append_left _ (List.mem_append_right _ h)) (by decide +kernel))
set_option maxRecDepth 20000 in
theorem gL_law_L_setSink : GoodIn wsL_law (va_wsS RL 115 yL_setSink wsL_setSink) := goodIn_app (goodIn_of _ (by decide +kernel)) ggL_law_L_setSink
set_option maxRecDepth 20000 in
theorem ggL_law_X5_setSink : GoodIn wsL_law wsX5_setSink := goodIn_r _ [316, 92, 39, 317, 318, 319, 5, 320, 266, 98, 99, 100, 101, 102, 103, 104, 94, 95, 96, 97, 93, 45, 46, 47, 321, 322, 323, 324, 325, 326, 327, 328, 42, 43, 44, 329, 330, 331, 332, 333, 228, 213, 229, 334, 335, 336, 337, 338, 339, 340, 341, 40, 824, 825, 826, 827, 828, 829, 830, 831, 832, 833] (by decide +kernel) (by decide +kernel)
set_option maxRecDepth 20000 in
theorem gL_law_X5_setSink : GoodIn wsL_law (wsV RL 118 RX5 yX5_setSink wsX5_setSink) := goodIn_app (goodIn_of _ (by decide +kernel)) ggL_law_X5_setSink
set_option maxRecDepth 20000 in
theorem ggL_law_L_setCall : GoodIn wsL_law wsL_setCall := goodIn_ca (goodIn_ca (goodIn_ca (goodIn_r _ [344, 278, 52, 132, 345, 346, 347, 2, 348, 57, 58, 349, 350, 287, 288, 289, 290, 291, 292, 16, 60, 61, 62, 63, 64, 65, 66, 67, 68, 69, 70, 71, 72, 73, 74, 75, 76, 77, 78, 79, 80, 293, 294, 295, 137, 138, 296, 297, 298, 188, 299, 300, 351, 352, 353, 354, 257, 255, 309, 355, 356, 357, 358, 359, 360, 838, 839, 840, 841, 842, 843, 844, 845, 846, 816, 817, 818, 819, 820, 821, 822, 823, 847, 848, 849, 850, 851, 852, 853, 854, 855] (by decide +kernel) (by decide +kernel)) (goodIn_sub (fun _ h => List.mem_append_left _ (List.mem_append_left _ (List.mem_append_right _ h))) (by decide +kernel))) (goodIn_sub (fun _ h => List.mem_append_right _ h) (by decide +kernel))) (goodIn_sub (fun _ h => List.mem_append_left _ (List.mem_append_right _ h)) (by decide +kernel))
set_option maxRecDepth 20000 in
theorem gL_law_L_setCall : GoodIn wsL_law (va_wsS RL 119 yL_setCall wsL_setCall) := goodIn_app (goodIn_of _ (by decide +kernel)) ggL_law_L_setCall
set_option maxRecDepth 20000 in
theorem ggL_law_X5_setCall : GoodIn wsL_law wsX5_setCall := goodIn_r _ [364, 92, 39, 317, 318, 319, 5, 320, 266, 98, 99, 100, 101, 102, 103, 104, 94, 95, 96, 97, 93, 45, 46, 47, 321, 322, 323, 324, 325, 326, 327, 328, 42, 43, 44, 365, 366, 367, 368, 369, 370, 371, 372, 338, 339, 340, 341, 40, 824, 825, 826, 827, 828, 829, 830, 831, 832, 833] (by decide +kernel) (by decide +kernel)
set_option maxRecDepth 20000 in
theorem gL_law_X5_setCall : GoodIn wsL_law (wsV RL 121 RX5 yX5_setCall wsX5_setCall) := goodIn_app (goodIn_of _ (by decide +kernel)) ggL_law_X5_setCall
set_option maxRecDepth 20000 in
theorem ggL_law_L_setRate : GoodIn wsL_law wsL_setRate := goodIn_ca (goodIn_r _ [375, 52, 376, 377, 378, 2, 379, 25, 199, 200, 201, 57, 58, 816, 817, 818, 819, 820, 821, 822, 823] (by decide +kernel) (by decide +kernel)) (goodIn_sub (fun _ h => List.mem_append_left _ (List.mem_append_left _ (List.mem_append_right _ h))) (by decide +kernel))
set_option maxRecDepth 20000 in
theorem gL_law_L_setRate : GoodIn wsL_law (va_wsS RL 122 yL_setRate wsL_setRate) := goodIn_app (goodIn_of _ (by decide +kernel)) ggL_law_L_setRate
set_option maxRecDepth 20000 in
theorem ggL_law_X5_setRate : GoodIn wsL_law wsX5_setRate := goodIn_r _ [383, 92, 37, 98, 99, 5, 100, 101, 102, 103, 104, 824, 825, 826, 827, 828, 829, 830, 831, 832, 833] (by decide +kernel) (by decide +kernel)
set_option maxRecDepth 20000 in
theorem gL_law_X5_setRate : GoodIn wsL_law (wsV RL 124 RX5 yX5_setRate wsX5_setRate) := goodIn_app (goodIn_of _ (by decide +kernel)) ggL_law_X5_setRate
set_option maxRecDepth 20000 in
theorem ggL_law_L_bond : GoodIn wsL_law wsL_bond := goodIn_ca (goodIn_r _ [386, 278, 387, 388, 389, 2, 390, 291, 292, 287, 288, 289, 290, 16, 391, 392, 393, 188, 394, 255, 395, 396, 397, 398, 399, 256, 309, 257, 300, 400, 401, 402, 403, 404, 405, 406, 407, 408, 409, 410, 297, 298, 299, 816, 817, 818, 819, 820, 821, 822, 823, 838, 839, 840, 841, 842, 843, 844, 845, 846, 847, 848, 849, 850, 851, 852, 853, 854, 855] (by decide +kernel) (by decide +kernel)) (goodIn_sub (fun _ h => List.mem_append_right _ h) (by decide +kernel))
set_option maxRecDepth 20000 in
theorem gL_law_L_bond : GoodIn wsL_law (va_wsS RL 125 yL_bond wsL_bond) := goodIn_app (goodIn_of _ (by decide +kernel)) ggL_law_L_bond
set_option maxRecDepth 20000 in
theorem ggL_law_X5_bond : GoodIn wsL_law wsX5_bond := goodIn_r _ [414, 92, 317, 318, 319, 5, 320, 266, 98, 99, 100, 415, 416, 417, 418, 325, 326, 327, 328, 39, 105, 106, 107, 45, 46, 47, 321, 322, 323, 324, 101, 102, 103, 104, 824, 825, 826, 827, 828, 829, 830, 831, 832, 833] (by decide +kernel) (by decide +kernel)
set_option maxRecDepth 20000 in
theorem gL_law_X5_bond : GoodIn wsL_law (wsV RL 127 RX5 yX5_bond wsX5_bond) := goodIn_app (goodIn_of _ (by decide +kernel)) ggL_law_X5_bond
set_option maxRecDepth 20000 in
theorem ggL_law_L_coupon : GoodIn wsL_law wsL_coupon := goodIn_ca (goodIn_r _ [421, 278, 422, 423, 424, 2, 425, 291, 292, 285, 286, 426, 287, 288, 289, 290, 16, 157, 158, 159, 160, 81, 82, 65, 83, 84, 161, 162, 163, 164, 119, 120, 121, 85, 86, 87, 78, 79, 80, 140, 141, 142, 143, 14, 427, 428, 429, 191, 430, 230, 220, 431, 432, 433, 434, 225, 232, 222, 231, 250, 223, 838, 839, 840, 841, 842, 843, 844, 845, 846, 847, 848, 849, 850, 851, 852, 853, 854, 855, 816, 817, 818, 819, 820, 821, 822, 823] (by decide +kernel) (by decide +kernel)) (goodIn_sub (fun _ h => List.mem_append_right _ h) (by decide +kernel))
set_option maxRecDepth 20000 in
theorem gL_law_L_coupon : GoodIn wsL_law (va_wsS RL 128 yL_coupon wsL_coupon) := goodIn_app (goodIn_of _ (by decide +kernel)) ggL_law_L_coupon
set_option maxRecDepth 20000 in
theorem ggL_law_X5_coupon_ : GoodIn wsL_law wsX5_coupon_ := goodIn_r _ [438, 92, 317, 318, 319, 5, 320, 266, 98, 99, 100, 325, 326, 327, 328, 39, 439, 440, 441, 442, 443, 338, 339, 340, 341, 40, 105, 106, 107, 45, 46, 47, 170, 171, 172, 173, 174, 175, 176, 177, 148, 38, 126, 127, 128, 444, 445, 446, 447, 333, 228, 213, 229, 448, 449, 450, 451, 452, 453, 454, 455, 456, 457, 458, 459, 460, 461, 274, 212, 214, 101, 102, 103, 104, 824, 825, 826, 827, 828, 829, 830, 831, 832, 833] (by decide +kernel) (by decide +kernel)
set_option maxRecDepth 20000 in
theorem gL_law_X5_coupon_ : GoodIn wsL_law (wsV RL 130 RX5 yX5_coupon_ wsX5_coupon_) := goodIn_app (goodIn_of _ (by decide +kernel)) ggL_law_X5_coupon_
set_option maxRecDepth 20000 in
theorem ggL_law_L_accrued : GoodIn wsL_law wsL_accrued := goodIn_ca (goodIn_ca (goodIn_r _ [464, 278, 52, 465, 466, 467, 2, 468, 287, 288, 289, 290, 291, 292, 16, 60, 61, 62, 57, 58, 63, 64, 65, 66, 67, 68, 69, 70, 71, 72, 73, 74, 75, 76, 77, 78, 79, 80, 469, 470, 471, 188, 472, 255, 410, 297, 298, 299, 300, 401, 402, 403, 404, 256, 405, 406, 407, 408, 409, 473, 474, 475, 191, 476, 220, 230, 222, 477, 259, 260, 261, 244, 245, 246, 247, 224, 248, 249, 225, 250, 223, 240, 241, 242, 243, 82, 83, 84, 478, 428, 429, 430, 233, 234, 235, 236, 237, 238, 239, 211, 212, 213, 214, 816, 817, 818, 819, 820, 821, 822, 823, 838, 839, 840, 841, 842, 843, 844, 845, 846, 847, 848, 849, 850, 851, 852, 853, 854, 855] (by decide +kernel) (by decide +kernel)) (goodIn_sub (fun _ h => List.mem_append_right _ h) (by decide +kernel))) (goodIn_sub (fun _ h => List.mem_append_left _ (List.mem_append_left _ (List.mem_append_right _ h))) (by decide +kernel))
set_option maxRecDepth 20000 in
theorem gL_law_L_accrued : GoodIn wsL_law (va_wsS RL 131 yL_accrued wsL_accrued) := goodIn_app (goodIn_of _ (by decide +kernel)) ggL_law_L_accrued
set_option maxRecDepth 20000 in
theorem ggL_law_X5_accrued : GoodIn wsL_law wsX5_accrued := goodIn_r _ [482, 92, 317, 318, 319, 5, 320, 266, 98, 99, 100, 101, 102, 103, 104, 94, 95, 96, 97, 93, 45, 46, 47, 42, 43, 44, 483, 484, 485, 486, 321, 322, 323, 324, 325, 326, 327, 328, 39, 487, 488, 489, 490, 338, 339, 340, 341, 40, 444, 445, 446, 447, 333, 228, 213, 229, 453, 454, 455, 456, 457, 458, 452, 105, 106, 107, 459, 460, 461, 274, 212, 214, 824, 825, 826, 827, 828, 829, 830, 831, 832, 833] (by decide +kernel) (by decide +kernel)
set_option maxRecDepth 20000 in
theorem gL_law_X5_accrued : GoodIn wsL_law (wsV RL 133 RX5 yX5_accrued wsX5_accrued) := goodIn_app (goodIn_of _ (by decide +kernel)) ggL_law_X5_accrued
set_option maxRecDepth 20000 in
theorem ggL_law_L_worth : GoodIn wsL_law wsL_worth := goodIn_ca (goodIn_ca (goodIn_r _ [493, 278, 52, 494, 495, 496, 2, 497, 22, 498, 287, 288, 289, 290, 291, 292, 16, 499, 500, 501, 57, 58, 502, 503, 504, 188, 505, 255, 409, 398, 309, 506, 507, 508, 258, 259, 260, 191, 261, 230, 410, 297, 298, 299, 300, 509, 241, 65, 242, 243, 82, 83, 84, 510, 511, 512, 513, 405, 406, 407, 408, 514, 432, 433, 434, 225, 220, 232, 222, 231, 250, 223, 515, 516, 517, 518, 305, 306, 307, 308, 310, 311, 312, 212, 213, 214, 816, 817, 818, 819, 820, 821, 822, 823, 838, 839, 840, 841, 842, 843, 844, 845, 846, 847, 848, 849, 850, 851, 852, 853, 854, 855] (by decide +kernel) (by decide +kernel)) (goodIn_sub (fun _ h => List.mem_append_right _ h) (by decide +kernel))) (goodIn_sub (fun _ h => List.mem_append_left _ (List.mem_append_left _ (List.mem_append_right _ h))) (by decide +kernel))
set_option maxRecDepth 20000 in
theorem gL_law_L_worth : GoodIn wsL_law (va_wsS RL 134 yL_worth wsL_worth) := goodIn_app (goodIn_of _ (by decide +kernel)) ggL_law_L_worth
set_option maxRecDepth 20000 in
theorem ggL_law_X5_worth : GoodIn wsL_law wsX5_worth := goodIn_r _ [522, 92, 317, 318, 319, 5, 320, 266, 98, 99, 100, 101, 102, 103, 104, 523, 524, 525, 526, 34, 321, 322, 323, 324, 325, 326, 327, 328, 39, 527, 528, 529, 530, 452, 531, 458, 274, 212, 213, 214, 532, 533, 487, 488, 489, 490, 338, 339, 340, 341, 40, 334, 335, 336, 337, 448, 449, 450, 451, 453, 454, 455, 456, 457, 105, 106, 107, 45, 46, 47, 459, 460, 461, 824, 825, 826, 827, 828, 829, 830, 831, 832, 833] (by decide +kernel) (by decide +kernel)
set_option maxRecDepth 20000 in
theorem gL_law_X5_worth : GoodIn wsL_law (wsV RL 136 RX5 yX5_worth wsX5_worth) := goodIn_app (goodIn_of _ (by decide +kernel)) ggL_law_X5_worth
set_option maxRecDepth 20000 in
theorem ggL_law_L_yields : GoodIn wsL_law wsL_yields := goodIn_ca (goodIn_ca (goodIn_r _ [536, 278, 52, 537, 538, 539, 2, 540, 22, 287, 288, 289, 290, 291, 292, 16, 541, 542, 543, 57, 58, 544, 545, 546, 188, 547, 256, 410, 297, 298, 299, 300, 548, 549, 550, 551, 409, 255, 401, 402, 403, 404, 405, 406, 407, 408, 473, 474, 475, 191, 476, 220, 230, 222, 477, 259, 260, 261, 244, 245, 246, 247, 224, 248, 249, 225, 250, 223, 240, 241, 65, 242, 243, 82, 83, 84, 478, 428, 429, 430, 233, 234, 235, 236, 237, 238, 239, 211, 212, 213, 214, 72, 73, 74, 75, 76, 77, 69, 70, 71, 552, 553, 554, 555, 556, 503, 504, 505, 398, 309, 506, 507, 508, 258, 509, 510, 511, 512, 513, 514, 432, 433, 434, 232, 231, 515, 516, 517, 518, 305, 306, 307, 308, 310, 311, 312, 816, 817, 818, 819, 820, 821, 822, 823, 838, 839, 840, 841, 842, 843, 844, 845, 846, 847, 848, 849, 850, 851, 852, 853, 854, 855] (by decide +kernel) (by decide +kernel)) (goodIn_sub (fun _ h => List.mem_append_right _ h) (by decide +kernel))) (goodIn_sub (fun _ h => List.mem_append_left _ (List.mem_append_left _ (List.mem_append_right _ h))) (by decide +kernel))
set_option maxRecDepth 20000 in
theorem gL_law_L_yields : GoodIn wsL_law (va_wsS RL 137 yL_yields wsL_yields) := goodIn_app (goodIn_of _ (by decide +kernel)) ggL_law_L_yields
set_option maxRecDepth 20000 in
theorem ggL_law_X5_yields : GoodIn wsL_law wsX5_yields := goodIn_r _ [560, 92, 317, 318, 319, 5, 320, 266, 98, 99, 100, 101, 102, 103, 104, 561, 562, 563, 564, 321, 322, 323, 324, 325, 326, 327, 328, 39, 565, 566, 567, 568, 532, 452, 34, 483, 484, 485, 486, 487, 488, 489, 490, 338, 339, 340, 341, 40, 444, 445, 446, 447, 333, 228, 213, 229, 453, 454, 455, 456, 457, 458, 105, 106, 107, 45, 46, 47, 459, 460, 461, 274, 212, 214, 523, 524, 525, 526, 527, 528, 529, 530, 531, 533, 334, 335, 336, 337, 448, 449, 450, 451, 824, 825, 826, 827, 828, 829, 830, 831, 832, 833] (by decide +kernel) (by decide +kernel)
set_option maxRecDepth 20000 in
theorem gL_law_X5_yields : GoodIn wsL_law (wsV RL 139 RX5 yX5_yields wsX5_yields) := goodIn_app (goodIn_of _ (by decide +kernel)) ggL_law_X5_yields
set_option maxRecDepth 20000 in
theorem ggL_law_L_moves : GoodIn wsL_law wsL_moves := goodIn_ca (goodIn_ca (goodIn_r _ [571, 278, 52, 572, 573, 574, 2, 575, 22, 498, 287, 288, 289, 290, 291, 292, 16, 499, 500, 501, 57, 58, 502, 503, 504, 188, 505, 255, 409, 398, 309, 506, 507, 508, 258, 259, 260, 191, 261, 230, 410, 297, 298, 299, 300, 509, 241, 65, 242, 243, 82, 83, 84, 510, 511, 512, 513, 405, 406, 407, 408, 514, 432, 433, 434, 225, 220, 232, 222, 231, 250, 223, 515, 516, 517, 518, 305, 306, 307, 308, 310, 311, 312, 212, 213, 214, 816, 817, 818, 819, 820, 821, 822, 823, 838, 839, 840, 841, 842, 843, 844, 845, 846, 847, 848, 849, 850, 851, 852, 853, 854, 855] (by decide +kernel) (by decide +kernel)) (goodIn_sub (fun _ h => List.mem_append_right _ h) (by decide +kernel))) (goodIn_sub (fun _ h => List.mem_append_left _ (List.mem_append_left _ (List.mem_append_right _ h))) (by decide +kernel))
set_option maxRecDepth 20000 in
theorem gL_law_L_moves : GoodIn wsL_law (va_wsS RL 140 yL_moves wsL_moves) := goodIn_app (goodIn_of _ (by decide +kernel)) ggL_law_L_moves
set_option maxRecDepth 20000 in
theorem ggL_law_X5_moves : GoodIn wsL_law wsX5_moves := goodIn_r _ [579, 92, 317, 318, 319, 5, 320, 266, 98, 99, 100, 101, 102, 103, 104, 523, 524, 525, 526, 34, 321, 322, 323, 324, 325, 326, 327, 328, 39, 527, 528, 529, 530, 452, 531, 458, 274, 212, 213, 214, 532, 533, 487, 488, 489, 490, 338, 339, 340, 341, 40, 334, 335, 336, 337, 448, 449, 450, 451, 453, 454, 455, 456, 457, 105, 106, 107, 45, 46, 47, 459, 460, 461, 824, 825, 826, 827, 828, 829, 830, 831, 832, 833] (by decide +kernel) (by decide +kernel)
set_option maxRecDepth 20000 in
theorem gL_law_X5_moves : GoodIn wsL_law (wsV RL 142 RX5 yX5_moves wsX5_moves) := goodIn_app (goodIn_of _ (by decide +kernel)) ggL_law_X5_moves
set_option maxRecDepth 20000 in
theorem ggL_law_L_callsAt : GoodIn wsL_law wsL_callsAt := goodIn_ca (goodIn_r _ [582, 278, 583, 584, 585, 2, 586, 287, 288, 289, 290, 291, 292, 16, 587, 588, 589, 188, 590, 255, 309, 410, 297, 298, 299, 300, 591, 352, 353, 354, 257, 355, 356, 357, 358, 359, 360, 592, 302, 303, 304, 256, 305, 306, 307, 308, 310, 311, 312, 212, 213, 214, 593, 594, 595, 596, 409, 405, 406, 407, 408, 552, 553, 554, 555, 556, 503, 504, 505, 398, 506, 507, 508, 258, 259, 260, 191, 261, 230, 509, 241, 65, 242, 243, 82, 83, 84, 510, 511, 512, 513, 514, 432, 433, 434, 225, 220, 232, 222, 231, 250, 223, 515, 516, 517, 518, 816, 817, 818, 819, 820, 821, 822, 823, 838, 839, 840, 841, 842, 843, 844, 845, 846, 847, 848, 849, 850, 851, 852, 853, 854, 855] (by decide +kernel) (by decide +kernel)) (goodIn_sub (fun _ h => List.mem_append_right _ h) (by decide +kernel))
set_option maxRecDepth 20000 in
theorem gL_law_L_callsAt : GoodIn wsL_law (va_wsS RL 143 yL_callsAt wsL_callsAt) := goodIn_app (goodIn_of _ (by decide +kernel)) ggL_law_L_callsAt
set_option maxRecDepth 20000 in
theorem ggL_law_X5_callsAt : GoodIn wsL_law wsX5_callsAt := goodIn_r _ [600, 92, 317, 318, 319, 5, 320, 266, 98, 99, 100, 101, 102, 103, 104, 365, 366, 367, 368, 321, 322, 323, 324, 325, 326, 327, 328, 39, 369, 370, 371, 372, 338, 339, 340, 341, 40, 329, 330, 331, 332, 333, 228, 213, 229, 334, 335, 336, 337, 527, 528, 529, 530, 452, 531, 458, 274, 212, 214, 532, 533, 487, 488, 489, 490, 448, 449, 450, 451, 453, 454, 455, 456, 457, 105, 106, 107, 45, 46, 47, 459, 460, 461, 601, 602, 603, 604, 824, 825, 826, 827, 828, 829, 830, 831, 832, 833] (by decide +kernel) (by decide +kernel)
set_option maxRecDepth 20000 in
theorem gL_law_X5_callsAt : GoodIn wsL_law (wsV RL 145 RX5 yX5_callsAt wsX5_callsAt) := goodIn_app (goodIn_of _ (by decide +kernel)) ggL_law_X5_callsAt
set_option maxRecDepth 20000 in
theorem ggL_law_L_buy : GoodIn wsL_law wsL_buy := goodIn_ca (goodIn_ca (goodIn_ca (goodIn_r _ [607, 278, 52, 132, 608, 609, 610, 2, 611, 137, 138, 22, 612, 24, 287, 288, 289, 290, 291, 292, 16, 613, 614, 615, 57, 58, 541, 542, 543, 616, 617, 618, 619, 81, 82, 65, 83, 84, 161, 162, 163, 164, 119, 120, 121, 85, 86, 87, 78, 79, 80, 140, 141, 142, 143, 14, 293, 294, 295, 296, 297, 298, 188, 299, 300, 620, 621, 622, 623, 255, 395, 624, 549, 550, 551, 409, 401, 402, 403, 404, 256, 405, 406, 407, 408, 473, 474, 475, 191, 476, 220, 230, 222, 477, 259, 260, 261, 244, 245, 246, 247, 224, 248, 249, 225, 250, 223, 240, 241, 242, 243, 478, 428, 429, 430, 233, 234, 235, 236, 237, 238, 239, 211, 212, 213, 214, 72, 73, 74, 75, 76, 77, 69, 70, 71, 816, 817, 818, 819, 820, 821, 822, 823, 838, 839, 840, 841, 842, 843, 844, 845, 846, 847, 848, 849, 850, 851, 852, 853, 854, 855] (by decide +kernel) (by decide +kernel)) (goodIn_sub (fun _ h => List.mem_append_left _ (List.mem_append_right _ h)) (by decide +kernel))) (goodIn_sub (fun _ h => List.mem_append_right _ h) (by decide +kernel))) (goodIn_sub (fun _ h => List.mem_append_left _ (List.mem_append_left _ (List.mem_append_right _ h))) (by decide +kernel))
set_option maxRecDepth 20000 in
theorem gL_law_L_buy : GoodIn wsL_law (va_wsS RL 146 yL_buy wsL_buy) := goodIn_app (goodIn_of _ (by decide +kernel)) ggL_law_L_buy
set_option maxRecDepth 20000 in
theorem ggL_law_X5_buy : GoodIn wsL_law wsX5_buy := goodIn_r _ [628, 92, 34, 36, 39, 317, 318, 319, 5, 320, 266, 98, 99, 100, 101, 102, 103, 104, 565, 566, 567, 568, 532, 452, 325, 326, 327, 328, 483, 484, 485, 486, 321, 322, 323, 324, 487, 488, 489, 490, 338, 339, 340, 341, 40, 444, 445, 446, 447, 333, 228, 213, 229, 453, 454, 455, 456, 457, 458, 105, 106, 107, 45, 46, 47, 459, 460, 461, 274, 212, 214, 174, 175, 176, 177, 148, 38, 126, 127, 128, 824, 825, 826, 827, 828, 829, 830, 831, 832, 833] (by decide +kernel) (by decide +kernel)
set_option maxRecDepth 20000 in
theorem gL_law_X5_buy : GoodIn wsL_law (wsV RL 148 RX5 yX5_buy wsX5_buy) := goodIn_app (goodIn_of _ (by decide +kernel)) ggL_law_X5_buy
set_option maxRecDepth 20000 in
theorem ggL_law_L_sell : GoodIn wsL_law wsL_sell := goodIn_ca (goodIn_ca (goodIn_ca (goodIn_r _ [631, 278, 52, 132, 632, 633, 634, 2, 635, 137, 138, 612, 22, 24, 287, 288, 289, 290, 291, 292, 16, 613, 614, 615, 57, 58, 541, 542, 543, 616, 617, 618, 619, 81, 82, 65, 83, 84, 161, 162, 163, 164, 119, 120, 121, 85, 86, 87, 78, 79, 80, 140, 141, 142, 143, 14, 624, 549, 550, 188, 551, 409, 255, 401, 402, 403, 404, 256, 405, 406, 407, 408, 473, 474, 475, 191, 476, 220, 230, 222, 477, 259, 260, 261, 244, 245, 246, 247, 224, 248, 249, 225, 250, 223, 240, 241, 242, 243, 478, 428, 429, 430, 233, 234, 235, 236, 237, 238, 239, 211, 212, 213, 214, 72, 73, 74, 75, 76, 77, 69, 70, 71, 838, 839, 840, 841, 842, 843, 844, 845, 846, 816, 817, 818, 819, 820, 821, 822, 823, 847, 848, 849, 850, 851, 852, 853, 854, 855] (by decide +kernel) (by decide +kernel)) (goodIn_sub (fun _ h => List.mem_append_left _ (List.mem_append_right _ h)) (by decide +kernel))) (goodIn_sub (fun _ h => List.mem_append_right _ h) (by decide +kernel))) (goodIn_sub (fun _ h => List.mem_append_left _ (List.mem_append_left _ (List.mem_append_right _ h))) (by decide +kernel))
set_option maxRecDepth 20000 in
theorem gL_law_L_sell : GoodIn wsL_law (va_wsS RL 149 yL_sell wsL_sell) := goodIn_app (goodIn_of _ (by decide +kernel)) ggL_law_L_sell
set_option maxRecDepth 20000 in
theorem ggL_law_X5_sell : GoodIn wsL_law wsX5_sell := goodIn_r _ [639, 92, 34, 36, 39, 317, 318, 319, 5, 320, 266, 98, 99, 100, 101, 102, 103, 104, 174, 175, 176, 177, 148, 38, 126, 127, 128, 325, 326, 327, 328, 565, 566, 567, 568, 532, 452, 483, 484, 485, 486, 321, 322, 323, 324, 487, 488, 489, 490, 338, 339, 340, 341, 40, 444, 445, 446, 447, 333, 228, 213, 229, 453, 454, 455, 456, 457, 458, 105, 106, 107, 45, 46, 47, 459, 460, 461, 274, 212, 214, 824, 825, 826, 827, 828, 829, 830, 831, 832, 833] (by decide +kernel) (by decide +kernel)
set_option maxRecDepth 20000 in
theorem gL_law_X5_sell : GoodIn wsL_law (wsV RL 151 RX5 yX5_sell wsX5_sell) := goodIn_app (goodIn_of _ (by decide +kernel)) ggL_law_X5_sell
set_option maxRecDepth 20000 in
theorem ggL_law_L_pass : GoodIn wsL_law wsL_pass := goodIn_ca (goodIn_ca (goodIn_r _ [642, 52, 132, 643, 644, 645, 2, 646, 57, 58, 137, 138, 22, 156, 20, 24, 81, 82, 65, 83, 84, 647, 648, 649, 19, 650, 651, 652, 653, 654, 85, 86, 87, 78, 79, 80, 161, 162, 163, 164, 119, 120, 121, 140, 141, 142, 143, 14, 655, 656, 657, 658, 16, 25, 659, 660, 661, 188, 662, 257, 255, 309, 410, 297, 298, 299, 300, 663, 664, 665, 666, 667, 400, 668, 256, 669, 670, 401, 402, 403, 404, 405, 406, 407, 408, 409, 514, 432, 433, 191, 434, 225, 220, 232, 222, 231, 250, 223, 515, 516, 517, 518, 671, 672, 673, 674, 305, 306, 307, 308, 310, 311, 312, 212, 213, 214, 355, 356, 357, 358, 359, 360, 556, 503, 504, 505, 398, 506, 507, 508, 258, 259, 260, 261, 230, 509, 241, 242, 243, 510, 511, 512, 513, 593, 594, 595, 596, 816, 817, 818, 819, 820, 821, 822, 823, 834, 835, 836, 837, 838, 839, 840, 841, 842, 843, 844, 845, 846, 847, 848, 849, 850, 851, 852, 853, 854, 855] (by decide +kernel) (by decide +kernel)) (goodIn_sub (fun _ h => List.mem_append_left _ (List.mem_append_left _ (List.mem_append_right _ h))) (by decide +kernel))) (goodIn_sub (fun _ h => List.mem_append_left _ (List.mem_append_right _ h)) (by decide +kernel))
set_option maxRecDepth 20000 in
theorem gL_law_L_pass : GoodIn wsL_law (va_wsS RL 152 yL_pass wsL_pass) := goodIn_app (goodIn_of _ (by decide +kernel)) ggL_law_L_pass
set_option maxRecDepth 20000 in
theorem ggL_law_X5_pass : GoodIn wsL_law wsX5_pass := goodIn_r _ [678, 92, 34, 169, 266, 98, 99, 5, 100, 101, 102, 103, 104, 42, 43, 44, 45, 46, 47, 174, 175, 176, 177, 148, 38, 126, 127, 128, 321, 322, 323, 324, 325, 326, 327, 328, 39, 338, 339, 340, 341, 40, 679, 680, 681, 682, 532, 274, 212, 213, 214, 37, 448, 449, 450, 451, 452, 453, 454, 455, 456, 457, 458, 105, 106, 107, 459, 460, 461, 683, 684, 685, 686, 41, 36, 687, 688, 689, 690, 334, 335, 336, 337, 369, 370, 371, 372, 527, 528, 529, 530, 531, 533, 487, 488, 489, 490, 601, 602, 603, 604, 824, 825, 826, 827, 828, 829, 830, 831, 832, 833] (by decide +kernel) (by decide +kernel)
set_option maxRecDepth 20000 in
theorem gL_law_X5_pass : GoodIn wsL_law (wsV RL 154 RX5 yX5_pass wsX5_pass) := goodIn_app (goodIn_of _ (by decide +kernel)) ggL_law_X5_pass
set_option maxRecDepth 20000 in
theorem ggL_law_L_count : GoodIn wsL_law wsL_count := goodIn_ca (goodIn_r _ [693, 278, 694, 695, 696, 2, 697, 291, 292, 698, 699, 700, 701, 22, 24, 25, 186, 139, 20, 702, 703, 704, 705, 706, 707, 708, 709, 16, 296, 297, 298, 188, 299, 300, 710, 711, 712, 713, 612, 714, 715, 716, 717, 498, 502, 503, 504, 505, 255, 409, 398, 309, 506, 507, 508, 258, 259, 260, 191, 261, 230, 410, 509, 241, 65, 242, 243, 82, 83, 84, 510, 511, 512, 513, 405, 406, 407, 408, 514, 432, 433, 434, 225, 220, 232, 222, 231, 250, 223, 515, 516, 517, 518, 305, 306, 307, 308, 310, 311, 312, 212, 213, 214, 816, 817, 818, 819, 820, 821, 822, 823, 834, 835, 836, 837, 838, 839, 840, 841, 842, 843, 844, 845, 846, 847, 848, 849, 850, 851, 852, 853, 854, 855] (by decide +kernel) (by decide +kernel)) (goodIn_sub (fun _ h => List.mem_append_right _ h) (by decide +kernel))
set_option maxRecDepth 20000 in
theorem gL_law_L_count : GoodIn wsL_law (va_wsS RL 155 yL_count wsL_count) := goodIn_app (goodIn_of _ (by decide +kernel)) ggL_law_L_count
set_option maxRecDepth 20000 in
theorem ggL_law_X5_count : GoodIn wsL_law wsX5_count := goodIn_r _ [721, 92, 98, 99, 5, 100, 722, 723, 724, 725, 266, 34, 36, 37, 148, 41, 321, 322, 323, 324, 325, 326, 327, 328, 39, 105, 106, 107, 45, 46, 47, 523, 524, 525, 526, 527, 528, 529, 530, 452, 531, 458, 274, 212, 213, 214, 532, 533, 487, 488, 489, 490, 338, 339, 340, 341, 40, 334, 335, 336, 337, 448, 449, 450, 451, 453, 454, 455, 456, 457, 459, 460, 461, 101, 102, 103, 104, 824, 825, 826, 827, 828, 829, 830, 831, 832, 833] (by decide +kernel) (by decide +kernel)
set_option maxRecDepth 20000 in
theorem gL_law_X5_count : GoodIn wsL_law (wsV RL 157 RX5 yX5_count wsX5_count) := goodIn_app (goodIn_of _ (by decide +kernel)) ggL_law_X5_count
set_option maxRecDepth 20000 in
theorem ggL_law_L_paysIn : GoodIn wsL_law wsL_paysIn := goodIn_ca (goodIn_r _ [728, 52, 729, 730, 731, 2, 732, 16, 612, 22, 733, 734, 735, 57, 58, 736, 737, 738, 188, 739, 256, 255, 309, 258, 259, 260, 191, 261, 230, 740, 76, 65, 77, 510, 511, 512, 513, 405, 406, 407, 408, 409, 514, 432, 433, 434, 225, 220, 232, 222, 231, 250, 223, 515, 516, 517, 518, 305, 306, 307, 308, 310, 311, 312, 212, 213, 214, 816, 817, 818, 819, 820, 821, 822, 823, 838, 839, 840, 841, 842, 843, 844, 845, 846, 847, 848, 849, 850, 851, 852, 853, 854, 855] (by decide +kernel) (by decide +kernel)) (goodIn_sub (fun _ h => List.mem_append_left _ (List.mem_append_left _ (List.mem_append_right _ h))) (by decide +kernel))
set_option maxRecDepth 20000 in
theorem gL_law_L_paysIn : GoodIn wsL_law (va_wsS RL 158 yL_paysIn wsL_paysIn) := goodIn_app (goodIn_of _ (by decide +kernel)) ggL_law_L_paysIn
set_option maxRecDepth 20000 in
theorem ggL_law_X5_paysIn : GoodIn wsL_law wsX5_paysIn := goodIn_r _ [744, 92, 266, 34, 274, 212, 213, 214, 532, 98, 99, 5, 100, 101, 102, 103, 104, 325, 326, 327, 328, 39, 487, 488, 489, 490, 338, 339, 340, 341, 40, 334, 335, 336, 337, 105, 106, 107, 45, 46, 47, 448, 449, 450, 451, 452, 453, 454, 455, 456, 457, 458, 459, 460, 461, 824, 825, 826, 827, 828, 829, 830, 831, 832, 833] (by decide +kernel) (by decide +kernel)
set_option maxRecDepth 20000 in
theorem gL_law_X5_paysIn : GoodIn wsL_law (wsV RL 160 RX5 yX5_paysIn wsX5_paysIn) := goodIn_app (goodIn_of _ (by decide +kernel)) ggL_law_X5_paysIn
set_option maxRecDepth 20000 in
theorem ggL_law_L_ladder : GoodIn wsL_law wsL_ladder := goodIn_ca (goodIn_r _ [747, 52, 748, 749, 750, 2, 751, 57, 58, 24, 752, 753, 754, 213, 755, 733, 734, 735, 756, 757, 758, 759, 760, 16, 22, 498, 25, 761, 762, 763, 188, 764, 255, 396, 410, 297, 298, 299, 300, 765, 621, 622, 623, 395, 740, 76, 65, 77, 502, 503, 504, 505, 409, 398, 309, 506, 507, 508, 258, 259, 260, 191, 261, 230, 509, 241, 242, 243, 82, 83, 84, 510, 511, 512, 513, 405, 406, 407, 408, 514, 432, 433, 434, 225, 220, 232, 222, 231, 250, 223, 515, 516, 517, 518, 305, 306, 307, 308, 310, 311, 312, 212, 214, 816, 817, 818, 819, 820, 821, 822, 823, 838, 839, 840, 841, 842, 843, 844, 845, 846, 847, 848, 849, 850, 851, 852, 853, 854, 855] (by decide +kernel) (by decide +kernel)) (goodIn_sub (fun _ h => List.mem_append_left _ (List.mem_append_left _ (List.mem_append_right _ h))) (by decide +kernel))
set_option maxRecDepth 20000 in
theorem gL_law_L_ladder : GoodIn wsL_law (va_wsS RL 161 yL_ladder wsL_ladder) := goodIn_app (goodIn_of _ (by decide +kernel)) ggL_law_L_ladder
set_option maxRecDepth 20000 in
theorem ggL_law_X5_ladder : GoodIn wsL_law wsX5_ladder := goodIn_r _ [769, 92, 770, 266, 34, 37, 771, 36, 772, 754, 213, 755, 98, 99, 5, 100, 101, 102, 103, 104, 321, 322, 323, 324, 325, 326, 327, 328, 39, 105, 106, 107, 45, 46, 47, 523, 524, 525, 526, 527, 528, 529, 530, 452, 531, 458, 274, 212, 214, 532, 533, 487, 488, 489, 490, 338, 339, 340, 341, 40, 334, 335, 336, 337, 448, 449, 450, 451, 453, 454, 455, 456, 457, 459, 460, 461, 824, 825, 826, 827, 828, 829, 830, 831, 832, 833] (by decide +kernel) (by decide +kernel)
set_option maxRecDepth 20000 in
theorem gL_law_X5_ladder : GoodIn wsL_law (wsV RL 163 RX5 yX5_ladder wsX5_ladder) := goodIn_app (goodIn_of _ (by decide +kernel)) ggL_law_X5_ladder
set_option maxRecDepth 20000 in
theorem ggL_law_L_best : GoodIn wsL_law wsL_best := goodIn_ca (goodIn_r _ [775, 52, 776, 777, 778, 2, 779, 16, 22, 541, 542, 543, 57, 58, 296, 297, 298, 188, 299, 300, 620, 621, 622, 623, 255, 395, 544, 545, 546, 547, 256, 410, 548, 549, 550, 551, 409, 401, 402, 403, 404, 405, 406, 407, 408, 473, 474, 475, 191, 476, 220, 230, 222, 477, 259, 260, 261, 244, 245, 246, 247, 224, 248, 249, 225, 250, 223, 240, 241, 65, 242, 243, 82, 83, 84, 478, 428, 429, 430, 233, 234, 235, 236, 237, 238, 239, 211, 212, 213, 214, 72, 73, 74, 75, 76, 77, 69, 70, 71, 552, 553, 554, 555, 556, 503, 504, 505, 398, 309, 506, 507, 508, 258, 509, 510, 511, 512, 513, 514, 432, 433, 434, 232, 231, 515, 516, 517, 518, 305, 306, 307, 308, 310, 311, 312, 816, 817, 818, 819, 820, 821, 822, 823, 838, 839, 840, 841, 842, 843, 844, 845, 846, 847, 848, 849, 850, 851, 852, 853, 854, 855] (by decide +kernel) (by decide +kernel)) (goodIn_sub (fun _ h => List.mem_append_left _ (List.mem_append_left _ (List.mem_append_right _ h))) (by decide +kernel))
set_option maxRecDepth 20000 in
theorem gL_law_L_best : GoodIn wsL_law (va_wsS RL 164 yL_best wsL_best) := goodIn_app (goodIn_of _ (by decide +kernel)) ggL_law_L_best
set_option maxRecDepth 20000 in
theorem ggL_law_X5_best : GoodIn wsL_law wsX5_best := goodIn_r _ [783, 92, 266, 34, 98, 99, 5, 100, 101, 102, 103, 104, 325, 326, 327, 328, 39, 561, 562, 563, 564, 321, 322, 323, 324, 565, 566, 567, 568, 532, 452, 483, 484, 485, 486, 487, 488, 489, 490, 338, 339, 340, 341, 40, 444, 445, 446, 447, 333, 228, 213, 229, 453, 454, 455, 456, 457, 458, 105, 106, 107, 45, 46, 47, 459, 460, 461, 274, 212, 214, 523, 524, 525, 526, 527, 528, 529, 530, 531, 533, 334, 335, 336, 337, 448, 449, 450, 451, 824, 825, 826, 827, 828, 829, 830, 831, 832, 833] (by decide +kernel) (by decide +kernel)
set_option maxRecDepth 20000 in
theorem gL_law_X5_best : GoodIn wsL_law (wsV RL 166 RX5 yX5_best wsX5_best) := goodIn_app (goodIn_of _ (by decide +kernel)) ggL_law_X5_best
set_option maxRecDepth 20000 in
theorem ggL_law_X4_years : GoodIn wsL_law wsX4_years := goodIn_r _ [787, 16, 612, 22, 285, 788, 789, 790, 402, 403, 188, 404, 256, 405, 406, 407, 408, 409, 791, 241, 65, 242, 243, 82, 83, 84, 816, 817, 818, 819, 820, 821, 822, 823, 838, 839, 840, 841, 842, 843, 844, 845, 846, 847, 848, 849, 850, 851, 852, 853, 854, 855] (by decide +kernel) (by decide +kernel)
set_option maxRecDepth 20000 in
theorem gL_law_X4_years : GoodIn wsL_law (wsV RL 167 RX4 yX4_years wsX4_years) := goodIn_app (goodIn_of _ (by decide +kernel)) ggL_law_X4_years
set_option maxRecDepth 20000 in
theorem ggL_law_X5_years : GoodIn wsL_law wsX5_years := goodIn_r _ [795, 92, 266, 532, 34, 796, 325, 326, 327, 5, 328, 39, 824, 825, 826, 827, 828, 829, 830, 831, 832, 833] (by decide +kernel) (by decide +kernel)
set_option maxRecDepth 20000 in
theorem gL_law_X5_years : GoodIn wsL_law (wsV RL 171 RX5 yX5_years wsX5_years) := goodIn_app (goodIn_of _ (by decide +kernel)) ggL_law_X5_years
set_option maxRecDepth 20000 in
theorem ggL_law_X4_digest : GoodIn wsL_law wsX4_digest := goodIn_r _ [800, 801, 802, 139, 14, 16, 22, 698, 699, 700, 2, 701, 24, 25, 186, 20, 702, 703, 704, 705, 706, 707, 708, 709, 296, 297, 298, 188, 299, 300, 710, 711, 712, 713, 612, 714, 715, 716, 717, 498, 502, 503, 504, 505, 255, 409, 398, 309, 506, 507, 508, 258, 259, 260, 191, 261, 230, 410, 509, 241, 65, 242, 243, 82, 83, 84, 510, 511, 512, 513, 405, 406, 407, 408, 514, 432, 433, 434, 225, 220, 232, 222, 231, 250, 223, 515, 516, 517, 518, 305, 306, 307, 308, 310, 311, 312, 212, 213, 214, 803, 804, 805, 806, 807, 808, 392, 393, 394, 395, 396, 397, 399, 256, 257, 400, 401, 402, 403, 404, 809, 470, 471, 472, 473, 474, 475, 476, 477, 244, 245, 246, 247, 224, 248, 249, 240, 478, 428, 429, 430, 233, 234, 235, 236, 237, 238, 239, 211, 72, 73, 74, 75, 76, 77, 69, 70, 71, 816, 817, 818, 819, 820, 821, 822, 823, 834, 835, 836, 837, 838, 839, 840, 841, 842, 843, 844, 845, 846, 847, 848, 849, 850, 851, 852, 853, 854, 855] (by decide +kernel) (by decide +kernel)
set_option maxRecDepth 20000 in
theorem gL_law_X4_digest : GoodIn wsL_law (wsV RL 172 RX4 yX4_digest wsX4_digest) := goodIn_app (goodIn_of _ (by decide +kernel)) ggL_law_X4_digest
set_option maxRecDepth 20000 in
theorem ggL_law_X5_digest : GoodIn wsL_law wsX5_digest := goodIn_r _ [813, 92, 814, 815, 148, 38, 266, 34, 722, 723, 724, 5, 725, 36, 37, 41, 321, 322, 323, 324, 325, 326, 327, 328, 39, 105, 106, 107, 45, 46, 47, 523, 524, 525, 526, 527, 528, 529, 530, 452, 531, 458, 274, 212, 213, 214, 532, 533, 487, 488, 489, 490, 338, 339, 340, 341, 40, 334, 335, 336, 337, 448, 449, 450, 451, 453, 454, 455, 456, 457, 459, 460, 461, 415, 416, 417, 418, 483, 484, 485, 486, 444, 445, 446, 447, 333, 228, 229, 439, 440, 441, 442, 443, 170, 171, 172, 173, 174, 175, 176, 177, 126, 127, 128, 824, 825, 826, 827, 828, 829, 830, 831, 832, 833] (by decide +kernel) (by decide +kernel)
set_option maxRecDepth 20000 in
theorem gL_law_X5_digest : GoodIn wsL_law (wsV RL 176 RX5 yX5_digest wsX5_digest) := goodIn_app (goodIn_of _ (by decide +kernel)) ggL_law_X5_digest


