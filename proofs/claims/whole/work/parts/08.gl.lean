set_option maxRecDepth 20000 in
theorem ggL_law_X5_init : GoodIn wsL_law wsX5_init := goodIn_r _ [8, 9, 10, 11, 12, 13, 14, 15, 16, 17, 18, 19, 20, 21, 22, 23, 24, 25, 26, 27, 28, 29, 30, 31, 32, 33, 34, 35, 36, 37, 38, 39, 40, 41, 42, 43, 44, 45, 46, 47, 48, 49, 50, 51, 52, 53, 54, 55, 56, 57, 58, 59, 60, 61, 62, 63, 64, 65, 66, 67, 68, 69, 70, 71, 72, 73, 74, 75, 76, 77, 78, 79, 80, 2, 81, 836, 837, 838, 799, 800, 801, 802, 803, 804, 805, 806, 807, 808, 839, 840, 841, 842, 843, 844, 845, 846, 847, 848, 849, 850, 851, 852, 853, 854, 855, 856, 857, 858, 859, 860, 861, 862, 863] (by decide +kernel) (by decide +kernel)
set_option maxRecDepth 20000 in
theorem gL_law_X5_init : GoodIn wsL_law (wsX5_init) := ggL_law_X5_init
set_option maxRecDepth 20000 in
theorem ggL_law_X6_init : GoodIn wsL_law wsX6_init := goodIn_r _ [84, 85, 10, 11, 32, 86, 87, 88, 89, 90, 91, 92, 93, 94, 95, 96, 97, 98, 99, 100, 101, 102, 103, 104, 809, 810, 811, 812, 813, 814, 815, 816, 817, 818, 819, 820, 821, 822, 823, 824, 825, 826, 827, 828, 829, 830, 831, 832, 833, 834, 835] (by decide +kernel) (by decide +kernel)
set_option maxRecDepth 20000 in
theorem gL_law_X6_init : GoodIn wsL_law (wsX6_init) := ggL_law_X6_init
set_option maxRecDepth 20000 in
theorem ggL_law_X5_town : GoodIn wsL_law wsX5_town := goodIn_r _ [108, 19, 15, 23, 31, 109, 110, 111, 112, 113, 2, 114, 37, 115, 116, 117, 14, 118, 119, 120, 121, 122, 123, 124, 125, 42, 126, 127, 128, 129, 130, 131, 132, 133, 134, 135, 136, 137, 43, 138, 139, 140, 18, 141, 142, 143, 144, 145, 146, 147, 148, 44, 149, 150, 151, 152, 153, 154, 155, 156, 157, 158, 159, 160, 161, 162, 163, 164, 165, 166, 167, 168, 49, 169, 170, 171, 172, 50, 173, 174, 175, 176, 51, 177, 178, 179, 180, 52, 181, 182, 183, 184, 185, 186, 187, 22, 188, 189, 190, 57, 191, 58, 192, 193, 194, 195, 196, 197, 198, 59, 60, 199, 200, 201, 202, 203, 204, 205, 206, 207, 208, 209, 210, 211, 212, 213, 214, 215, 216, 217, 218, 219, 61, 220, 221, 222, 223, 224, 225, 226, 227, 228, 229, 62, 78, 79, 80, 81, 33, 34, 35, 799, 800, 801, 802, 803, 804, 805, 806, 807, 808, 860, 861, 862, 863, 846, 847, 848, 849, 850, 851, 852, 853, 854, 836, 837, 838, 839, 840, 841, 842, 843, 844, 845] (by decide +kernel) (by decide +kernel)
set_option maxRecDepth 20000 in
theorem gL_law_X5_town : GoodIn wsL_law (wsV RL 13 RX5 yX5_town wsX5_town) := goodIn_app (goodIn_r _ [105, 106, 107, 2] (by decide +kernel) (by decide +kernel)) ggL_law_X5_town
set_option maxRecDepth 20000 in
theorem ggL_law_X6_town : GoodIn wsL_law wsX6_town := goodIn_r _ [233, 234, 235, 236, 237, 238, 86, 93, 87, 94, 88, 95, 89, 96, 90, 91, 92, 239, 240, 241, 242, 5, 243, 244, 101, 102, 245, 246, 247, 248, 249, 250, 251, 252, 253, 254, 255, 256, 257, 258, 259, 260, 261, 262, 263, 264, 265, 266, 267, 268, 269, 270, 271, 103, 272, 273, 274, 275, 276, 277, 278, 279, 280, 281, 282, 283, 809, 810, 811, 812, 813, 814, 815, 816, 817, 818, 819, 820, 821, 822, 823, 824, 825, 826, 827, 828, 829, 830, 831, 832, 833, 834, 835] (by decide +kernel) (by decide +kernel)
set_option maxRecDepth 20000 in
theorem gL_law_X6_town : GoodIn wsL_law (wsV RL 17 RX6 yX6_town wsX6_town) := goodIn_app (goodIn_r _ [230, 231, 232, 5] (by decide +kernel) (by decide +kernel)) ggL_law_X6_town
set_option maxRecDepth 20000 in
theorem ggL_law_X5_ofThing : GoodIn wsL_law wsX5_ofThing := goodIn_r _ [287, 23, 288, 289, 290, 291, 292, 22, 293, 190, 294, 224, 2, 225, 799, 800, 801, 802, 803, 804, 805, 806, 807, 808, 846, 847, 848, 849, 850, 851, 852, 853, 854] (by decide +kernel) (by decide +kernel)
set_option maxRecDepth 20000 in
theorem gL_law_X5_ofThing : GoodIn wsL_law (wsV RL 18 RX5 yX5_ofThing wsX5_ofThing) := goodIn_app (goodIn_r _ [284, 285, 286, 2] (by decide +kernel) (by decide +kernel)) ggL_law_X5_ofThing
set_option maxRecDepth 20000 in
theorem ggL_law_X6_ofThing : GoodIn wsL_law wsX6_ofThing := goodIn_r _ [298, 86, 87, 299, 300, 301, 5, 302, 236, 249, 250, 251, 809, 810, 811, 812, 813, 814, 815, 816, 817, 818, 819, 820, 821, 822, 823, 824, 825, 826, 827, 828, 829, 830, 831, 832, 833, 834, 835] (by decide +kernel) (by decide +kernel)
set_option maxRecDepth 20000 in
theorem gL_law_X6_ofThing : GoodIn wsL_law (wsV RL 22 RX6 yX6_ofThing wsX6_ofThing) := goodIn_app (goodIn_r _ [295, 296, 297, 5] (by decide +kernel) (by decide +kernel)) ggL_law_X6_ofThing
set_option maxRecDepth 20000 in
theorem ggL_law_X5_cases : GoodIn wsL_law wsX5_cases := goodIn_r _ [306, 23, 307, 799, 800, 801, 802, 803, 804, 805, 806, 807, 808, 846, 847, 848, 849, 850, 851, 852, 853, 854] (by decide +kernel) (by decide +kernel)
set_option maxRecDepth 20000 in
theorem gL_law_X5_cases : GoodIn wsL_law (wsV RL 23 RX5 yX5_cases wsX5_cases) := goodIn_app (goodIn_r _ [303, 304, 305, 2] (by decide +kernel) (by decide +kernel)) ggL_law_X5_cases
set_option maxRecDepth 20000 in
theorem ggL_law_X6_cases : GoodIn wsL_law wsX6_cases := goodIn_r _ [311, 312, 313, 314, 5, 315, 236, 238, 88, 89, 316, 317, 318, 319, 320, 321, 322, 323, 249, 250, 251, 324, 325, 326, 809, 810, 811, 812, 813, 814, 815, 816, 817, 818, 819, 820, 821, 822, 823, 824, 825, 826, 827, 828, 829, 830, 831, 832, 833, 834, 835] (by decide +kernel) (by decide +kernel)
set_option maxRecDepth 20000 in
theorem gL_law_X6_cases : GoodIn wsL_law (wsV RL 27 RX6 yX6_cases wsX6_cases) := goodIn_app (goodIn_r _ [308, 309, 310, 5] (by decide +kernel) (by decide +kernel)) ggL_law_X6_cases
set_option maxRecDepth 20000 in
theorem ggL_law_X5_weight : GoodIn wsL_law wsX5_weight := goodIn_r _ [330, 23, 331, 332, 333, 334, 22, 335, 197, 799, 800, 801, 802, 803, 804, 805, 806, 807, 808, 846, 847, 848, 849, 850, 851, 852, 853, 854] (by decide +kernel) (by decide +kernel)
set_option maxRecDepth 20000 in
theorem gL_law_X5_weight : GoodIn wsL_law (wsV RL 28 RX5 yX5_weight wsX5_weight) := goodIn_app (goodIn_r _ [327, 328, 329, 2] (by decide +kernel) (by decide +kernel)) ggL_law_X5_weight
set_option maxRecDepth 20000 in
theorem ggL_law_X6_weight : GoodIn wsL_law wsX6_weight := goodIn_r _ [339, 312, 313, 314, 5, 315, 236, 238, 88, 89, 316, 317, 318, 319, 320, 321, 322, 323, 249, 250, 251, 324, 325, 326, 340, 341, 342, 343, 87, 809, 810, 811, 812, 813, 814, 815, 816, 817, 818, 819, 820, 821, 822, 823, 824, 825, 826, 827, 828, 829, 830, 831, 832, 833, 834, 835] (by decide +kernel) (by decide +kernel)
set_option maxRecDepth 20000 in
theorem gL_law_X6_weight : GoodIn wsL_law (wsV RL 32 RX6 yX6_weight wsX6_weight) := goodIn_app (goodIn_r _ [336, 337, 338, 5] (by decide +kernel) (by decide +kernel)) ggL_law_X6_weight
set_option maxRecDepth 20000 in
theorem ggL_law_X5_list : GoodIn wsL_law wsX5_list := goodIn_r _ [347, 33, 348, 349, 350, 2, 351, 23, 352, 353, 354, 355, 356, 357, 22, 358, 359, 360, 361, 362, 199, 200, 201, 202, 190, 363, 364, 365, 366, 110, 799, 800, 801, 802, 803, 804, 805, 806, 807, 808, 846, 847, 848, 849, 850, 851, 852, 853, 854] (by decide +kernel) (by decide +kernel)
set_option maxRecDepth 20000 in
theorem gL_law_X5_list : GoodIn wsL_law (wsV RL 33 RX5 yX5_list wsX5_list) := goodIn_app (goodIn_r _ [344, 345, 346, 2] (by decide +kernel) (by decide +kernel)) ggL_law_X5_list
set_option maxRecDepth 20000 in
theorem ggL_law_X6_list : GoodIn wsL_law wsX6_list := goodIn_r _ [370, 236, 90, 371, 372, 5, 373, 374, 249, 250, 251, 316, 317, 318, 319, 320, 321, 322, 323, 809, 810, 811, 812, 813, 814, 815, 816, 817, 818, 819, 820, 821, 822, 823, 824, 825, 826, 827, 828, 829, 830, 831, 832, 833, 834, 835] (by decide +kernel) (by decide +kernel)
set_option maxRecDepth 20000 in
theorem gL_law_X6_list : GoodIn wsL_law (wsV RL 36 RX6 yX6_list wsX6_list) := goodIn_app (goodIn_r _ [367, 368, 369, 5] (by decide +kernel) (by decide +kernel)) ggL_law_X6_list
set_option maxRecDepth 20000 in
theorem ggL_law_X5_breath : GoodIn wsL_law wsX5_breath := goodIn_r _ [378, 34, 352, 353, 2, 354, 379, 380, 381, 363, 364, 365, 366, 23, 110, 799, 800, 801, 802, 803, 804, 805, 806, 807, 808, 846, 847, 848, 849, 850, 851, 852, 853, 854] (by decide +kernel) (by decide +kernel)
set_option maxRecDepth 20000 in
theorem gL_law_X5_breath : GoodIn wsL_law (wsV RL 37 RX5 yX5_breath wsX5_breath) := goodIn_app (goodIn_r _ [375, 376, 377, 2] (by decide +kernel) (by decide +kernel)) ggL_law_X5_breath
set_option maxRecDepth 20000 in
theorem ggL_law_X6_breath : GoodIn wsL_law wsX6_breath := goodIn_r _ [385, 386, 236, 91, 371, 372, 5, 373, 374, 249, 250, 251, 809, 810, 811, 812, 813, 814, 815, 816, 817, 818, 819, 820, 821, 822, 823, 824, 825, 826, 827, 828, 829, 830, 831, 832, 833, 834, 835] (by decide +kernel) (by decide +kernel)
set_option maxRecDepth 20000 in
theorem gL_law_X6_breath : GoodIn wsL_law (wsV RL 40 RX6 yX6_breath wsX6_breath) := goodIn_app (goodIn_r _ [382, 383, 384, 5] (by decide +kernel) (by decide +kernel)) ggL_law_X6_breath
set_option maxRecDepth 20000 in
theorem ggL_law_X5_called : GoodIn wsL_law wsX5_called := goodIn_r _ [390, 23, 332, 333, 334, 22, 335, 197, 352, 353, 2, 354, 391, 392, 393, 394, 33, 34, 395, 396, 397, 398, 62, 380, 381, 799, 800, 801, 802, 803, 804, 805, 806, 807, 808, 846, 847, 848, 849, 850, 851, 852, 853, 854] (by decide +kernel) (by decide +kernel)
set_option maxRecDepth 20000 in
theorem gL_law_X5_called : GoodIn wsL_law (wsV RL 41 RX5 yX5_called wsX5_called) := goodIn_app (goodIn_r _ [387, 388, 389, 2] (by decide +kernel) (by decide +kernel)) ggL_law_X5_called
set_option maxRecDepth 20000 in
theorem ggL_law_X6_called : GoodIn wsL_law wsX6_called := goodIn_r _ [402, 312, 313, 314, 5, 315, 236, 238, 88, 89, 316, 317, 318, 319, 320, 321, 322, 323, 249, 250, 251, 324, 325, 326, 371, 372, 373, 374, 403, 404, 405, 406, 90, 91, 407, 408, 409, 410, 86, 809, 810, 811, 812, 813, 814, 815, 816, 817, 818, 819, 820, 821, 822, 823, 824, 825, 826, 827, 828, 829, 830, 831, 832, 833, 834, 835] (by decide +kernel) (by decide +kernel)
set_option maxRecDepth 20000 in
theorem gL_law_X6_called : GoodIn wsL_law (wsV RL 44 RX6 yX6_called wsX6_called) := goodIn_app (goodIn_r _ [399, 400, 401, 5] (by decide +kernel) (by decide +kernel)) ggL_law_X6_called
set_option maxRecDepth 20000 in
theorem ggL_law_X5_hear : GoodIn wsL_law wsX5_hear := goodIn_r _ [414, 35, 348, 349, 350, 2, 351, 23, 352, 353, 354, 355, 356, 357, 22, 358, 359, 360, 361, 362, 199, 200, 201, 202, 190, 363, 364, 365, 366, 110, 799, 800, 801, 802, 803, 804, 805, 806, 807, 808, 846, 847, 848, 849, 850, 851, 852, 853, 854] (by decide +kernel) (by decide +kernel)
set_option maxRecDepth 20000 in
theorem gL_law_X5_hear : GoodIn wsL_law (wsV RL 45 RX5 yX5_hear wsX5_hear) := goodIn_app (goodIn_r _ [411, 412, 413, 2] (by decide +kernel) (by decide +kernel)) ggL_law_X5_hear
set_option maxRecDepth 20000 in
theorem ggL_law_X6_hear : GoodIn wsL_law wsX6_hear := goodIn_r _ [418, 236, 92, 371, 372, 5, 373, 374, 249, 250, 251, 316, 317, 318, 319, 320, 321, 322, 323, 809, 810, 811, 812, 813, 814, 815, 816, 817, 818, 819, 820, 821, 822, 823, 824, 825, 826, 827, 828, 829, 830, 831, 832, 833, 834, 835] (by decide +kernel) (by decide +kernel)
set_option maxRecDepth 20000 in
theorem gL_law_X6_hear : GoodIn wsL_law (wsV RL 48 RX6 yX6_hear wsX6_hear) := goodIn_app (goodIn_r _ [415, 416, 417, 5] (by decide +kernel) (by decide +kernel)) ggL_law_X6_hear
set_option maxRecDepth 20000 in
theorem ggL_law_X5_thought : GoodIn wsL_law wsX5_thought := goodIn_r _ [422, 23, 423, 424, 425, 426, 427, 2, 428, 35, 391, 392, 393, 394, 33, 34, 395, 396, 397, 22, 398, 62, 380, 381, 799, 800, 801, 802, 803, 804, 805, 806, 807, 808, 846, 847, 848, 849, 850, 851, 852, 853, 854] (by decide +kernel) (by decide +kernel)
set_option maxRecDepth 20000 in
theorem gL_law_X5_thought : GoodIn wsL_law (wsV RL 49 RX5 yX5_thought wsX5_thought) := goodIn_app (goodIn_r _ [419, 420, 421, 2] (by decide +kernel) (by decide +kernel)) ggL_law_X5_thought
set_option maxRecDepth 20000 in
theorem ggL_law_X6_thought : GoodIn wsL_law wsX6_thought := goodIn_r _ [432, 433, 434, 435, 5, 436, 92, 312, 313, 314, 315, 236, 238, 88, 89, 316, 317, 318, 319, 320, 321, 322, 323, 249, 250, 251, 324, 325, 326, 403, 404, 405, 406, 90, 91, 407, 408, 409, 410, 86, 809, 810, 811, 812, 813, 814, 815, 816, 817, 818, 819, 820, 821, 822, 823, 824, 825, 826, 827, 828, 829, 830, 831, 832, 833, 834, 835] (by decide +kernel) (by decide +kernel)
set_option maxRecDepth 20000 in
theorem gL_law_X6_thought : GoodIn wsL_law (wsV RL 52 RX6 yX6_thought wsX6_thought) := goodIn_app (goodIn_r _ [429, 430, 431, 5] (by decide +kernel) (by decide +kernel)) ggL_law_X6_thought
set_option maxRecDepth 20000 in
theorem ggL_law_X5_sure : GoodIn wsL_law wsX5_sure := goodIn_r _ [440, 23, 423, 424, 363, 364, 365, 2, 366, 110, 441, 360, 361, 22, 362, 199, 200, 201, 202, 190, 425, 426, 427, 428, 35, 391, 392, 393, 394, 33, 34, 395, 396, 397, 398, 62, 380, 381, 799, 800, 801, 802, 803, 804, 805, 806, 807, 808, 846, 847, 848, 849, 850, 851, 852, 853, 854] (by decide +kernel) (by decide +kernel)
set_option maxRecDepth 20000 in
theorem gL_law_X5_sure : GoodIn wsL_law (wsV RL 53 RX5 yX5_sure wsX5_sure) := goodIn_app (goodIn_r _ [437, 438, 439, 2] (by decide +kernel) (by decide +kernel)) ggL_law_X5_sure
set_option maxRecDepth 20000 in
theorem ggL_law_X6_sure : GoodIn wsL_law wsX6_sure := goodIn_r _ [445, 236, 249, 250, 5, 251, 320, 321, 322, 323, 433, 434, 435, 436, 92, 312, 313, 314, 315, 238, 88, 89, 316, 317, 318, 319, 324, 325, 326, 403, 404, 405, 406, 90, 91, 407, 408, 409, 410, 86, 809, 810, 811, 812, 813, 814, 815, 816, 817, 818, 819, 820, 821, 822, 823, 824, 825, 826, 827, 828, 829, 830, 831, 832, 833, 834, 835] (by decide +kernel) (by decide +kernel)
set_option maxRecDepth 20000 in
theorem gL_law_X6_sure : GoodIn wsL_law (wsV RL 56 RX6 yX6_sure wsX6_sure) := goodIn_app (goodIn_r _ [442, 443, 444, 5] (by decide +kernel) (by decide +kernel)) ggL_law_X6_sure
set_option maxRecDepth 20000 in
theorem ggL_law_X5_chance : GoodIn wsL_law wsX5_chance := goodIn_r _ [449, 23, 450, 423, 424, 331, 290, 291, 292, 22, 293, 190, 451, 452, 2, 453, 425, 426, 427, 428, 35, 391, 392, 393, 394, 33, 34, 395, 396, 397, 398, 62, 380, 381, 454, 210, 211, 455, 456, 457, 458, 459, 460, 799, 800, 801, 802, 803, 804, 805, 806, 807, 808, 846, 847, 848, 849, 850, 851, 852, 853, 854] (by decide +kernel) (by decide +kernel)
set_option maxRecDepth 20000 in
theorem gL_law_X5_chance : GoodIn wsL_law (wsV RL 57 RX5 yX5_chance wsX5_chance) := goodIn_app (goodIn_r _ [446, 447, 448, 2] (by decide +kernel) (by decide +kernel)) ggL_law_X5_chance
set_option maxRecDepth 20000 in
theorem ggL_law_X6_chance : GoodIn wsL_law wsX6_chance := goodIn_r _ [464, 299, 300, 301, 5, 302, 236, 249, 250, 251, 465, 466, 467, 468, 320, 321, 322, 323, 433, 434, 435, 436, 92, 312, 313, 314, 315, 238, 88, 89, 316, 317, 318, 319, 324, 325, 326, 403, 404, 405, 406, 90, 91, 407, 408, 409, 410, 86, 340, 341, 342, 343, 87, 469, 470, 471, 809, 810, 811, 812, 813, 814, 815, 816, 817, 818, 819, 820, 821, 822, 823, 824, 825, 826, 827, 828, 829, 830, 831, 832, 833, 834, 835] (by decide +kernel) (by decide +kernel)
set_option maxRecDepth 20000 in
theorem gL_law_X6_chance : GoodIn wsL_law (wsV RL 61 RX6 yX6_chance wsX6_chance) := goodIn_app (goodIn_r _ [461, 462, 463, 5] (by decide +kernel) (by decide +kernel)) ggL_law_X6_chance
set_option maxRecDepth 20000 in
theorem ggL_law_X5_parts : GoodIn wsL_law wsX5_parts := goodIn_r _ [475, 27, 363, 364, 365, 2, 366, 23, 110, 476, 477, 478, 479, 33, 34, 480, 481, 482, 26, 483, 484, 485, 486, 487, 488, 489, 68, 490, 491, 492, 493, 494, 495, 396, 397, 22, 398, 62, 380, 381, 496, 497, 498, 499, 500, 69, 501, 502, 503, 504, 799, 800, 801, 802, 803, 804, 805, 806, 807, 808, 846, 847, 848, 849, 850, 851, 852, 853, 854, 855, 856, 857, 858, 859] (by decide +kernel) (by decide +kernel)
set_option maxRecDepth 20000 in
theorem gL_law_X5_parts : GoodIn wsL_law (wsV RL 62 RX5 yX5_parts wsX5_parts) := goodIn_app (goodIn_r _ [472, 473, 474, 2] (by decide +kernel) (by decide +kernel)) ggL_law_X5_parts
set_option maxRecDepth 20000 in
theorem ggL_law_X6_parts : GoodIn wsL_law wsX6_parts := goodIn_r _ [508, 509, 236, 249, 250, 5, 251, 510, 511, 512, 513, 320, 321, 322, 323, 312, 313, 314, 315, 238, 88, 89, 316, 317, 318, 319, 324, 325, 326, 514, 515, 516, 517, 403, 404, 405, 406, 90, 91, 407, 408, 409, 410, 86, 809, 810, 811, 812, 813, 814, 815, 816, 817, 818, 819, 820, 821, 822, 823, 824, 825, 826, 827, 828, 829, 830, 831, 832, 833, 834, 835] (by decide +kernel) (by decide +kernel)
set_option maxRecDepth 20000 in
theorem gL_law_X6_parts : GoodIn wsL_law (wsV RL 65 RX6 yX6_parts wsX6_parts) := goodIn_app (goodIn_r _ [505, 506, 507, 5] (by decide +kernel) (by decide +kernel)) ggL_law_X6_parts
set_option maxRecDepth 20000 in
theorem ggL_law_X5_best : GoodIn wsL_law wsX5_best := goodIn_r _ [521, 27, 23, 34, 352, 353, 2, 354, 363, 364, 365, 366, 110, 476, 477, 478, 479, 33, 480, 481, 482, 26, 483, 484, 485, 486, 487, 488, 489, 68, 490, 491, 492, 493, 494, 495, 396, 397, 22, 398, 62, 380, 381, 496, 497, 498, 499, 500, 69, 501, 502, 503, 504, 522, 200, 201, 202, 190, 523, 524, 525, 526, 70, 799, 800, 801, 802, 803, 804, 805, 806, 807, 808, 846, 847, 848, 849, 850, 851, 852, 853, 854, 855, 856, 857, 858, 859] (by decide +kernel) (by decide +kernel)
set_option maxRecDepth 20000 in
theorem gL_law_X5_best : GoodIn wsL_law (wsV RL 66 RX5 yX5_best wsX5_best) := goodIn_app (goodIn_r _ [518, 519, 520, 2] (by decide +kernel) (by decide +kernel)) ggL_law_X5_best
set_option maxRecDepth 20000 in
theorem ggL_law_X6_best : GoodIn wsL_law wsX6_best := goodIn_r _ [530, 236, 90, 371, 372, 5, 373, 374, 249, 250, 251, 320, 321, 322, 323, 510, 511, 512, 513, 312, 313, 314, 315, 238, 88, 89, 316, 317, 318, 319, 324, 325, 326, 514, 515, 516, 517, 403, 404, 405, 406, 91, 407, 408, 409, 410, 86, 809, 810, 811, 812, 813, 814, 815, 816, 817, 818, 819, 820, 821, 822, 823, 824, 825, 826, 827, 828, 829, 830, 831, 832, 833, 834, 835] (by decide +kernel) (by decide +kernel)
set_option maxRecDepth 20000 in
theorem gL_law_X6_best : GoodIn wsL_law (wsV RL 69 RX6 yX6_best wsX6_best) := goodIn_app (goodIn_r _ [527, 528, 529, 5] (by decide +kernel) (by decide +kernel)) ggL_law_X6_best
set_option maxRecDepth 20000 in
theorem ggL_law_X5_words : GoodIn wsL_law wsX5_words := goodIn_r _ [534, 450, 23, 423, 424, 331, 352, 353, 2, 354, 451, 452, 453, 363, 364, 365, 366, 110, 391, 392, 393, 394, 33, 34, 395, 396, 397, 22, 398, 62, 380, 381, 535, 536, 537, 538, 190, 57, 210, 211, 224, 225, 455, 456, 457, 458, 459, 460, 799, 800, 801, 802, 803, 804, 805, 806, 807, 808, 846, 847, 848, 849, 850, 851, 852, 853, 854] (by decide +kernel) (by decide +kernel)
set_option maxRecDepth 20000 in
theorem gL_law_X5_words : GoodIn wsL_law (wsV RL 70 RX5 yX5_words wsX5_words) := goodIn_app (goodIn_r _ [531, 532, 533, 2] (by decide +kernel) (by decide +kernel)) ggL_law_X5_words
set_option maxRecDepth 20000 in
theorem ggL_law_X6_words : GoodIn wsL_law wsX6_words := goodIn_r _ [542, 236, 371, 372, 5, 373, 374, 249, 250, 251, 465, 466, 467, 468, 320, 321, 322, 323, 312, 313, 314, 315, 238, 88, 89, 316, 317, 318, 319, 324, 325, 326, 340, 341, 342, 343, 87, 403, 404, 405, 406, 90, 91, 407, 408, 409, 410, 86, 543, 544, 545, 546, 469, 470, 471, 809, 810, 811, 812, 813, 814, 815, 816, 817, 818, 819, 820, 821, 822, 823, 824, 825, 826, 827, 828, 829, 830, 831, 832, 833, 834, 835] (by decide +kernel) (by decide +kernel)
set_option maxRecDepth 20000 in
theorem gL_law_X6_words : GoodIn wsL_law (wsV RL 73 RX6 yX6_words wsX6_words) := goodIn_app (goodIn_r _ [539, 540, 541, 5] (by decide +kernel) (by decide +kernel)) ggL_law_X6_words
set_option maxRecDepth 20000 in
theorem ggL_law_X5_secret : GoodIn wsL_law wsX5_secret := goodIn_r _ [550, 23, 34, 332, 333, 334, 22, 335, 197, 290, 291, 292, 293, 190, 352, 353, 2, 354, 355, 356, 357, 358, 359, 360, 361, 362, 199, 200, 201, 202, 522, 551, 552, 553, 554, 423, 424, 395, 396, 397, 398, 62, 380, 381, 454, 210, 211, 799, 800, 801, 802, 803, 804, 805, 806, 807, 808, 846, 847, 848, 849, 850, 851, 852, 853, 854] (by decide +kernel) (by decide +kernel)
set_option maxRecDepth 20000 in
theorem gL_law_X5_secret : GoodIn wsL_law (wsV RL 74 RX5 yX5_secret wsX5_secret) := goodIn_app (goodIn_r _ [547, 548, 549, 2] (by decide +kernel) (by decide +kernel)) ggL_law_X5_secret
set_option maxRecDepth 20000 in
theorem ggL_law_X6_secret : GoodIn wsL_law wsX6_secret := goodIn_r _ [558, 91, 312, 313, 314, 5, 315, 236, 238, 88, 89, 316, 317, 318, 319, 320, 321, 322, 323, 249, 250, 251, 324, 325, 326, 299, 300, 301, 302, 371, 372, 373, 374, 559, 560, 561, 562, 407, 408, 409, 410, 86, 809, 810, 811, 812, 813, 814, 815, 816, 817, 818, 819, 820, 821, 822, 823, 824, 825, 826, 827, 828, 829, 830, 831, 832, 833, 834, 835] (by decide +kernel) (by decide +kernel)
set_option maxRecDepth 20000 in
theorem gL_law_X6_secret : GoodIn wsL_law (wsV RL 77 RX6 yX6_secret wsX6_secret) := goodIn_app (goodIn_r _ [555, 556, 557, 5] (by decide +kernel) (by decide +kernel)) ggL_law_X6_secret
set_option maxRecDepth 20000 in
theorem ggL_law_X5_shortest : GoodIn wsL_law wsX5_shortest := goodIn_r _ [566, 23, 34, 290, 291, 292, 22, 293, 190, 352, 353, 2, 354, 522, 200, 201, 202, 567, 568, 569, 570, 571, 572, 573, 574, 575, 576, 577, 423, 424, 395, 396, 397, 398, 62, 380, 381, 454, 210, 211, 799, 800, 801, 802, 803, 804, 805, 806, 807, 808, 846, 847, 848, 849, 850, 851, 852, 853, 854] (by decide +kernel) (by decide +kernel)
set_option maxRecDepth 20000 in
theorem gL_law_X5_shortest : GoodIn wsL_law (wsV RL 78 RX5 yX5_shortest wsX5_shortest) := goodIn_app (goodIn_r _ [563, 564, 565, 2] (by decide +kernel) (by decide +kernel)) ggL_law_X5_shortest
set_option maxRecDepth 20000 in
theorem ggL_law_X6_shortest : GoodIn wsL_law wsX6_shortest := goodIn_r _ [581, 91, 299, 300, 301, 5, 302, 236, 249, 250, 251, 371, 372, 373, 374, 320, 321, 322, 323, 582, 583, 584, 585, 586, 587, 588, 312, 313, 314, 315, 238, 88, 89, 316, 317, 318, 319, 324, 325, 326, 559, 560, 561, 562, 407, 408, 409, 410, 86, 809, 810, 811, 812, 813, 814, 815, 816, 817, 818, 819, 820, 821, 822, 823, 824, 825, 826, 827, 828, 829, 830, 831, 832, 833, 834, 835] (by decide +kernel) (by decide +kernel)
set_option maxRecDepth 20000 in
theorem gL_law_X6_shortest : GoodIn wsL_law (wsV RL 81 RX6 yX6_shortest wsX6_shortest) := goodIn_app (goodIn_r _ [578, 579, 580, 5] (by decide +kernel) (by decide +kernel)) ggL_law_X6_shortest
set_option maxRecDepth 20000 in
theorem ggL_law_X5_two : GoodIn wsL_law wsX5_two := goodIn_r _ [592, 23, 27, 34, 352, 353, 2, 354, 355, 356, 357, 22, 358, 359, 360, 361, 362, 199, 200, 201, 202, 190, 363, 364, 365, 366, 110, 480, 481, 482, 26, 483, 484, 485, 486, 487, 488, 489, 68, 490, 491, 492, 493, 494, 495, 396, 397, 398, 62, 380, 381, 496, 497, 498, 499, 500, 69, 501, 502, 503, 504, 799, 800, 801, 802, 803, 804, 805, 806, 807, 808, 846, 847, 848, 849, 850, 851, 852, 853, 854, 855, 856, 857, 858, 859] (by decide +kernel) (by decide +kernel)
set_option maxRecDepth 20000 in
theorem gL_law_X5_two : GoodIn wsL_law (wsV RL 82 RX5 yX5_two wsX5_two) := goodIn_app (goodIn_r _ [589, 590, 591, 2] (by decide +kernel) (by decide +kernel)) ggL_law_X5_two
set_option maxRecDepth 20000 in
theorem ggL_law_X6_two : GoodIn wsL_law wsX6_two := goodIn_r _ [596, 236, 91, 371, 372, 5, 373, 374, 249, 250, 251, 316, 317, 318, 319, 320, 321, 322, 323, 312, 313, 314, 315, 238, 88, 89, 324, 325, 326, 407, 408, 409, 410, 86, 809, 810, 811, 812, 813, 814, 815, 816, 817, 818, 819, 820, 821, 822, 823, 824, 825, 826, 827, 828, 829, 830, 831, 832, 833, 834, 835] (by decide +kernel) (by decide +kernel)
set_option maxRecDepth 20000 in
theorem gL_law_X6_two : GoodIn wsL_law (wsV RL 86 RX6 yX6_two wsX6_two) := goodIn_app (goodIn_r _ [593, 594, 595, 5] (by decide +kernel) (by decide +kernel)) ggL_law_X6_two
set_option maxRecDepth 20000 in
theorem ggL_law_X5_reading : GoodIn wsL_law wsX5_reading := goodIn_r _ [600, 23, 31, 109, 332, 333, 334, 22, 335, 197, 352, 353, 2, 354, 355, 356, 357, 358, 359, 360, 361, 362, 199, 200, 201, 202, 190, 601, 602, 603, 30, 604, 605, 75, 76, 77, 799, 800, 801, 802, 803, 804, 805, 806, 807, 808, 860, 861, 862, 863, 846, 847, 848, 849, 850, 851, 852, 853, 854] (by decide +kernel) (by decide +kernel)
set_option maxRecDepth 20000 in
theorem gL_law_X5_reading : GoodIn wsL_law (wsV RL 87 RX5 yX5_reading wsX5_reading) := goodIn_app (goodIn_r _ [597, 598, 599, 2] (by decide +kernel) (by decide +kernel)) ggL_law_X5_reading
set_option maxRecDepth 20000 in
theorem ggL_law_X6_reading : GoodIn wsL_law wsX6_reading := goodIn_r _ [609, 239, 97, 98, 99, 312, 313, 314, 5, 315, 236, 238, 88, 89, 316, 317, 318, 319, 320, 321, 322, 323, 249, 250, 251, 324, 325, 326, 371, 372, 373, 374, 809, 810, 811, 812, 813, 814, 815, 816, 817, 818, 819, 820, 821, 822, 823, 824, 825, 826, 827, 828, 829, 830, 831, 832, 833, 834, 835] (by decide +kernel) (by decide +kernel)
set_option maxRecDepth 20000 in
theorem gL_law_X6_reading : GoodIn wsL_law (wsV RL 90 RX6 yX6_reading wsX6_reading) := goodIn_app (goodIn_r _ [606, 607, 608, 5] (by decide +kernel) (by decide +kernel)) ggL_law_X6_reading
set_option maxRecDepth 20000 in
theorem ggL_law_X5_back : GoodIn wsL_law wsX5_back := goodIn_r _ [613, 31, 109, 799, 800, 801, 802, 803, 804, 805, 806, 807, 808, 860, 861, 862, 863] (by decide +kernel) (by decide +kernel)
set_option maxRecDepth 20000 in
theorem gL_law_X5_back : GoodIn wsL_law (wsV RL 91 RX5 yX5_back wsX5_back) := goodIn_app (goodIn_r _ [610, 611, 612, 2] (by decide +kernel) (by decide +kernel)) ggL_law_X5_back
set_option maxRecDepth 20000 in
theorem ggL_law_X6_back : GoodIn wsL_law wsX6_back := goodIn_r _ [617, 239, 249, 250, 5, 251, 809, 810, 811, 812, 813, 814, 815, 816, 817, 818, 819, 820, 821, 822, 823, 824, 825, 826, 827, 828, 829, 830, 831, 832, 833, 834, 835] (by decide +kernel) (by decide +kernel)
set_option maxRecDepth 20000 in
theorem gL_law_X6_back : GoodIn wsL_law (wsV RL 94 RX6 yX6_back wsX6_back) := goodIn_app (goodIn_r _ [614, 615, 616, 5] (by decide +kernel) (by decide +kernel)) ggL_law_X6_back
set_option maxRecDepth 20000 in
theorem ggL_law_X5_rules : GoodIn wsL_law wsX5_rules := goodIn_r _ [621, 23, 31, 34, 352, 353, 2, 354, 363, 364, 365, 366, 110, 522, 200, 201, 22, 202, 190, 622, 623, 624, 30, 625, 605, 76, 75, 77, 626, 396, 397, 398, 62, 380, 381, 799, 800, 801, 802, 803, 804, 805, 806, 807, 808, 846, 847, 848, 849, 850, 851, 852, 853, 854, 860, 861, 862, 863] (by decide +kernel) (by decide +kernel)
set_option maxRecDepth 20000 in
theorem gL_law_X5_rules : GoodIn wsL_law (wsV RL 95 RX5 yX5_rules wsX5_rules) := goodIn_app (goodIn_r _ [618, 619, 620, 2] (by decide +kernel) (by decide +kernel)) ggL_law_X5_rules
set_option maxRecDepth 20000 in
theorem ggL_law_X6_rules : GoodIn wsL_law wsX6_rules := goodIn_r _ [630, 236, 371, 372, 5, 373, 374, 249, 250, 251, 320, 321, 322, 323, 631, 632, 633, 634, 239, 98, 97, 91, 99, 407, 408, 409, 410, 86, 324, 325, 326, 809, 810, 811, 812, 813, 814, 815, 816, 817, 818, 819, 820, 821, 822, 823, 824, 825, 826, 827, 828, 829, 830, 831, 832, 833, 834, 835] (by decide +kernel) (by decide +kernel)
set_option maxRecDepth 20000 in
theorem gL_law_X6_rules : GoodIn wsL_law (wsV RL 98 RX6 yX6_rules wsX6_rules) := goodIn_app (goodIn_r _ [627, 628, 629, 5] (by decide +kernel) (by decide +kernel)) ggL_law_X6_rules
set_option maxRecDepth 20000 in
theorem ggL_law_X5_night : GoodIn wsL_law wsX5_night := goodIn_r _ [638, 27, 23, 33, 15, 111, 112, 113, 2, 114, 37, 115, 116, 117, 14, 118, 119, 120, 121, 122, 123, 124, 125, 42, 126, 127, 128, 129, 130, 131, 132, 133, 134, 135, 136, 137, 43, 363, 364, 365, 366, 110, 639, 640, 641, 642, 643, 146, 147, 148, 44, 149, 150, 151, 152, 379, 380, 381, 480, 481, 482, 26, 483, 484, 485, 486, 487, 488, 489, 68, 490, 491, 492, 493, 494, 495, 396, 397, 22, 398, 62, 496, 497, 498, 499, 500, 69, 501, 502, 503, 504, 799, 800, 801, 802, 803, 804, 805, 806, 807, 808, 836, 837, 838, 846, 847, 848, 849, 850, 851, 852, 853, 854, 855, 856, 857, 858, 859] (by decide +kernel) (by decide +kernel)
set_option maxRecDepth 20000 in
theorem gL_law_X5_night : GoodIn wsL_law (wsV RL 99 RX5 yX5_night wsX5_night) := goodIn_app (goodIn_r _ [635, 636, 637, 2] (by decide +kernel) (by decide +kernel)) ggL_law_X5_night
set_option maxRecDepth 20000 in
theorem ggL_law_X6_night : GoodIn wsL_law wsX6_night := goodIn_r _ [647, 236, 103, 386, 100, 91, 240, 241, 242, 5, 243, 244, 101, 102, 245, 246, 247, 248, 249, 250, 251, 252, 253, 254, 255, 256, 257, 258, 259, 260, 261, 262, 263, 510, 511, 512, 513, 320, 321, 322, 323, 312, 313, 314, 315, 238, 88, 89, 316, 317, 318, 319, 324, 325, 326, 514, 515, 516, 517, 403, 404, 405, 406, 90, 407, 408, 409, 410, 86, 809, 810, 811, 812, 813, 814, 815, 816, 817, 818, 819, 820, 821, 822, 823, 824, 825, 826, 827, 828, 829, 830, 831, 832, 833, 834, 835] (by decide +kernel) (by decide +kernel)
set_option maxRecDepth 20000 in
theorem gL_law_X6_night : GoodIn wsL_law (wsV RL 102 RX6 yX6_night wsX6_night) := goodIn_app (goodIn_r _ [644, 645, 646, 5] (by decide +kernel) (by decide +kernel)) ggL_law_X6_night
set_option maxRecDepth 20000 in
theorem ggL_law_X5_sheet : GoodIn wsL_law wsX5_sheet := goodIn_r _ [651, 37, 15, 115, 116, 117, 14, 118, 119, 120, 2, 121, 126, 127, 128, 129, 652, 653, 654, 655, 42, 43, 44, 799, 800, 801, 802, 803, 804, 805, 806, 807, 808, 836, 837, 838] (by decide +kernel) (by decide +kernel)
set_option maxRecDepth 20000 in
theorem gL_law_X5_sheet : GoodIn wsL_law (wsV RL 103 RX5 yX5_sheet wsX5_sheet) := goodIn_app (goodIn_r _ [648, 649, 650, 2] (by decide +kernel) (by decide +kernel)) ggL_law_X5_sheet
set_option maxRecDepth 20000 in
theorem ggL_law_X6_sheet : GoodIn wsL_law wsX6_sheet := goodIn_r _ [659, 244, 101, 102, 103, 245, 246, 5, 247, 248, 249, 250, 251, 252, 253, 254, 255, 256, 257, 258, 259, 260, 809, 810, 811, 812, 813, 814, 815, 816, 817, 818, 819, 820, 821, 822, 823, 824, 825, 826, 827, 828, 829, 830, 831, 832, 833, 834, 835] (by decide +kernel) (by decide +kernel)
set_option maxRecDepth 20000 in
theorem gL_law_X6_sheet : GoodIn wsL_law (wsV RL 106 RX6 yX6_sheet wsX6_sheet) := goodIn_app (goodIn_r _ [656, 657, 658, 5] (by decide +kernel) (by decide +kernel)) ggL_law_X6_sheet
set_option maxRecDepth 20000 in
theorem ggL_law_X5_lose : GoodIn wsL_law wsX5_lose := goodIn_r _ [663, 15, 115, 116, 117, 14, 118, 130, 131, 132, 133, 42, 664, 665, 666, 667, 43, 799, 800, 801, 802, 803, 804, 805, 806, 807, 808, 836, 837, 838] (by decide +kernel) (by decide +kernel)
set_option maxRecDepth 20000 in
theorem gL_law_X5_lose : GoodIn wsL_law (wsV RL 107 RX5 yX5_lose wsX5_lose) := goodIn_app (goodIn_r _ [660, 661, 662, 2] (by decide +kernel) (by decide +kernel)) ggL_law_X5_lose
set_option maxRecDepth 20000 in
theorem ggL_law_X6_lose : GoodIn wsL_law wsX6_lose := goodIn_r _ [671, 101, 245, 246, 5, 247, 248, 249, 250, 251, 809, 810, 811, 812, 813, 814, 815, 816, 817, 818, 819, 820, 821, 822, 823, 824, 825, 826, 827, 828, 829, 830, 831, 832, 833, 834, 835] (by decide +kernel) (by decide +kernel)
set_option maxRecDepth 20000 in
theorem gL_law_X6_lose : GoodIn wsL_law (wsV RL 110 RX6 yX6_lose wsX6_lose) := goodIn_app (goodIn_r _ [668, 669, 670, 5] (by decide +kernel) (by decide +kernel)) ggL_law_X6_lose
set_option maxRecDepth 20000 in
theorem ggL_law_X5_put : GoodIn wsL_law wsX5_put := goodIn_r _ [675, 37, 15, 115, 116, 117, 14, 118, 130, 131, 132, 133, 42, 126, 127, 128, 2, 129, 676, 150, 151, 152, 43, 677, 678, 679, 680, 44, 799, 800, 801, 802, 803, 804, 805, 806, 807, 808, 836, 837, 838] (by decide +kernel) (by decide +kernel)
set_option maxRecDepth 20000 in
theorem gL_law_X5_put : GoodIn wsL_law (wsV RL 111 RX5 yX5_put wsX5_put) := goodIn_app (goodIn_r _ [672, 673, 674, 2] (by decide +kernel) (by decide +kernel)) ggL_law_X5_put
set_option maxRecDepth 20000 in
theorem ggL_law_X6_put : GoodIn wsL_law wsX6_put := goodIn_r _ [684, 103, 102, 245, 246, 5, 247, 248, 249, 250, 251, 252, 253, 254, 255, 256, 685, 686, 687, 688, 101, 257, 258, 259, 260, 809, 810, 811, 812, 813, 814, 815, 816, 817, 818, 819, 820, 821, 822, 823, 824, 825, 826, 827, 828, 829, 830, 831, 832, 833, 834, 835] (by decide +kernel) (by decide +kernel)
set_option maxRecDepth 20000 in
theorem gL_law_X6_put : GoodIn wsL_law (wsV RL 114 RX6 yX6_put wsX6_put) := goodIn_app (goodIn_r _ [681, 682, 683, 5] (by decide +kernel) (by decide +kernel)) ggL_law_X6_put
set_option maxRecDepth 20000 in
theorem ggL_law_X5_cell : GoodIn wsL_law wsX5_cell := goodIn_r _ [692, 37, 15, 450, 115, 116, 117, 14, 118, 119, 120, 2, 121, 122, 123, 124, 125, 42, 126, 127, 128, 129, 130, 131, 132, 133, 676, 150, 151, 152, 43, 643, 146, 147, 148, 44, 149, 799, 800, 801, 802, 803, 804, 805, 806, 807, 808, 836, 837, 838] (by decide +kernel) (by decide +kernel)
set_option maxRecDepth 20000 in
theorem gL_law_X5_cell : GoodIn wsL_law (wsV RL 115 RX5 yX5_cell wsX5_cell) := goodIn_app (goodIn_r _ [689, 690, 691, 2] (by decide +kernel) (by decide +kernel)) ggL_law_X5_cell
set_option maxRecDepth 20000 in
theorem ggL_law_X6_cell : GoodIn wsL_law wsX6_cell := goodIn_r _ [696, 256, 244, 101, 102, 103, 245, 246, 5, 247, 248, 249, 250, 251, 465, 466, 467, 468, 697, 698, 699, 700, 685, 686, 687, 688, 809, 810, 811, 812, 813, 814, 815, 816, 817, 818, 819, 820, 821, 822, 823, 824, 825, 826, 827, 828, 829, 830, 831, 832, 833, 834, 835] (by decide +kernel) (by decide +kernel)
set_option maxRecDepth 20000 in
theorem gL_law_X6_cell : GoodIn wsL_law (wsV RL 119 RX6 yX6_cell wsX6_cell) := goodIn_app (goodIn_r _ [693, 694, 695, 5] (by decide +kernel) (by decide +kernel)) ggL_law_X6_cell
set_option maxRecDepth 20000 in
theorem ggL_law_X5_copy : GoodIn wsL_law wsX5_copy := goodIn_r _ [704, 37, 15, 705, 115, 116, 117, 14, 118, 130, 131, 132, 133, 42, 126, 127, 128, 2, 129, 134, 135, 136, 137, 43, 706, 707, 708, 709, 44, 710, 711, 712, 713, 799, 800, 801, 802, 803, 804, 805, 806, 807, 808, 836, 837, 838] (by decide +kernel) (by decide +kernel)
set_option maxRecDepth 20000 in
theorem gL_law_X5_copy : GoodIn wsL_law (wsV RL 120 RX5 yX5_copy wsX5_copy) := goodIn_app (goodIn_r _ [701, 702, 703, 2] (by decide +kernel) (by decide +kernel)) ggL_law_X5_copy
set_option maxRecDepth 20000 in
theorem ggL_law_X6_copy : GoodIn wsL_law wsX6_copy := goodIn_r _ [717, 101, 102, 104, 103, 245, 246, 5, 247, 248, 249, 250, 251, 252, 253, 254, 255, 256, 257, 258, 259, 260, 261, 262, 263, 809, 810, 811, 812, 813, 814, 815, 816, 817, 818, 819, 820, 821, 822, 823, 824, 825, 826, 827, 828, 829, 830, 831, 832, 833, 834, 835] (by decide +kernel) (by decide +kernel)
set_option maxRecDepth 20000 in
theorem gL_law_X6_copy : GoodIn wsL_law (wsV RL 124 RX6 yX6_copy wsX6_copy) := goodIn_app (goodIn_r _ [714, 715, 716, 5] (by decide +kernel) (by decide +kernel)) ggL_law_X6_copy
set_option maxRecDepth 20000 in
theorem ggL_law_X5_tell : GoodIn wsL_law wsX5_tell := goodIn_r _ [721, 23, 288, 289, 290, 291, 292, 22, 293, 190, 722, 723, 724, 2, 725, 726, 727, 728, 729, 36, 730, 731, 732, 733, 734, 735, 736, 737, 799, 800, 801, 802, 803, 804, 805, 806, 807, 808, 846, 847, 848, 849, 850, 851, 852, 853, 854] (by decide +kernel) (by decide +kernel)
set_option maxRecDepth 20000 in
theorem gL_law_X5_tell : GoodIn wsL_law (wsV RL 125 RX5 yX5_tell wsX5_tell) := goodIn_app (goodIn_r _ [718, 719, 720, 2] (by decide +kernel) (by decide +kernel)) ggL_law_X5_tell
set_option maxRecDepth 20000 in
theorem ggL_law_X6_tell : GoodIn wsL_law wsX6_tell := goodIn_r _ [741, 86, 87, 299, 300, 301, 5, 302, 236, 249, 250, 251, 742, 743, 744, 745, 746, 809, 810, 811, 812, 813, 814, 815, 816, 817, 818, 819, 820, 821, 822, 823, 824, 825, 826, 827, 828, 829, 830, 831, 832, 833, 834, 835] (by decide +kernel) (by decide +kernel)
set_option maxRecDepth 20000 in
theorem gL_law_X6_tell : GoodIn wsL_law (wsV RL 128 RX6 yX6_tell wsX6_tell) := goodIn_app (goodIn_r _ [738, 739, 740, 5] (by decide +kernel) (by decide +kernel)) ggL_law_X6_tell
set_option maxRecDepth 20000 in
theorem ggL_law_X5_fear : GoodIn wsL_law wsX5_fear := goodIn_r _ [750, 23, 288, 290, 291, 292, 22, 293, 190, 751, 752, 753, 2, 754, 726, 727, 728, 729, 36, 755, 756, 757, 758, 799, 800, 801, 802, 803, 804, 805, 806, 807, 808, 846, 847, 848, 849, 850, 851, 852, 853, 854] (by decide +kernel) (by decide +kernel)
set_option maxRecDepth 20000 in
theorem gL_law_X5_fear : GoodIn wsL_law (wsV RL 129 RX5 yX5_fear wsX5_fear) := goodIn_app (goodIn_r _ [747, 748, 749, 2] (by decide +kernel) (by decide +kernel)) ggL_law_X5_fear
set_option maxRecDepth 20000 in
theorem ggL_law_X6_fear : GoodIn wsL_law wsX6_fear := goodIn_r _ [762, 86, 299, 300, 301, 5, 302, 236, 249, 250, 251, 742, 743, 744, 745, 746, 809, 810, 811, 812, 813, 814, 815, 816, 817, 818, 819, 820, 821, 822, 823, 824, 825, 826, 827, 828, 829, 830, 831, 832, 833, 834, 835] (by decide +kernel) (by decide +kernel)
set_option maxRecDepth 20000 in
theorem gL_law_X6_fear : GoodIn wsL_law (wsV RL 132 RX6 yX6_fear wsX6_fear) := goodIn_app (goodIn_r _ [759, 760, 761, 5] (by decide +kernel) (by decide +kernel)) ggL_law_X6_fear
set_option maxRecDepth 20000 in
theorem ggL_law_X5_as : GoodIn wsL_law wsX5_as := goodIn_r _ [766, 37, 23, 288, 290, 291, 292, 22, 293, 190, 126, 127, 128, 2, 129, 799, 800, 801, 802, 803, 804, 805, 806, 807, 808, 846, 847, 848, 849, 850, 851, 852, 853, 854] (by decide +kernel) (by decide +kernel)
set_option maxRecDepth 20000 in
theorem gL_law_X5_as : GoodIn wsL_law (wsV RL 133 RX5 yX5_as wsX5_as) := goodIn_app (goodIn_r _ [763, 764, 765, 2] (by decide +kernel) (by decide +kernel)) ggL_law_X5_as
set_option maxRecDepth 20000 in
theorem ggL_law_X6_as : GoodIn wsL_law wsX6_as := goodIn_r _ [770, 244, 86, 299, 300, 301, 5, 302, 236, 249, 250, 251, 252, 253, 254, 255, 256, 257, 258, 259, 260, 809, 810, 811, 812, 813, 814, 815, 816, 817, 818, 819, 820, 821, 822, 823, 824, 825, 826, 827, 828, 829, 830, 831, 832, 833, 834, 835] (by decide +kernel) (by decide +kernel)
set_option maxRecDepth 20000 in
theorem gL_law_X6_as : GoodIn wsL_law (wsV RL 136 RX6 yX6_as wsX6_as) := goodIn_app (goodIn_r _ [767, 768, 769, 5] (by decide +kernel) (by decide +kernel)) ggL_law_X6_as
set_option maxRecDepth 20000 in
theorem ggL_law_X5_trace : GoodIn wsL_law wsX5_trace := goodIn_r _ [774, 36, 799, 800, 801, 802, 803, 804, 805, 806, 807, 808] (by decide +kernel) (by decide +kernel)
set_option maxRecDepth 20000 in
theorem gL_law_X5_trace : GoodIn wsL_law (wsV RL 137 RX5 yX5_trace wsX5_trace) := goodIn_app (goodIn_r _ [771, 772, 773, 2] (by decide +kernel) (by decide +kernel)) ggL_law_X5_trace
set_option maxRecDepth 20000 in
theorem ggL_law_X6_trace : GoodIn wsL_law wsX6_trace := goodIn_r _ [778, 746, 809, 810, 811, 812, 813, 814, 815, 816, 817, 818, 819, 820, 821, 822, 823, 824, 825, 826, 827, 828, 829, 830, 831, 832, 833, 834, 835] (by decide +kernel) (by decide +kernel)
set_option maxRecDepth 20000 in
theorem gL_law_X6_trace : GoodIn wsL_law (wsV RL 141 RX6 yX6_trace wsX6_trace) := goodIn_app (goodIn_r _ [775, 776, 777, 5] (by decide +kernel) (by decide +kernel)) ggL_law_X6_trace
set_option maxRecDepth 20000 in
theorem ggL_law_X5_fault : GoodIn wsL_law wsX5_fault := goodIn_r _ [782, 37, 799, 800, 801, 802, 803, 804, 805, 806, 807, 808] (by decide +kernel) (by decide +kernel)
set_option maxRecDepth 20000 in
theorem gL_law_X5_fault : GoodIn wsL_law (wsV RL 142 RX5 yX5_fault wsX5_fault) := goodIn_app (goodIn_r _ [779, 780, 781, 2] (by decide +kernel) (by decide +kernel)) ggL_law_X5_fault
set_option maxRecDepth 20000 in
theorem ggL_law_X6_fault : GoodIn wsL_law wsX6_fault := goodIn_r _ [786, 256, 809, 810, 811, 812, 813, 814, 815, 816, 817, 818, 819, 820, 821, 822, 823, 824, 825, 826, 827, 828, 829, 830, 831, 832, 833, 834, 835] (by decide +kernel) (by decide +kernel)
set_option maxRecDepth 20000 in
theorem gL_law_X6_fault : GoodIn wsL_law (wsV RL 145 RX6 yX6_fault wsX6_fault) := goodIn_app (goodIn_r _ [783, 784, 785, 5] (by decide +kernel) (by decide +kernel)) ggL_law_X6_fault
set_option maxRecDepth 20000 in
theorem ggL_law_X5_many : GoodIn wsL_law wsX5_many := goodIn_r _ [790, 23, 110, 423, 31, 109, 791, 792, 793, 2, 794, 35, 799, 800, 801, 802, 803, 804, 805, 806, 807, 808, 846, 847, 848, 849, 850, 851, 852, 853, 854, 860, 861, 862, 863] (by decide +kernel) (by decide +kernel)
set_option maxRecDepth 20000 in
theorem gL_law_X5_many : GoodIn wsL_law (wsV RL 146 RX5 yX5_many wsX5_many) := goodIn_app (goodIn_r _ [787, 788, 789, 2] (by decide +kernel) (by decide +kernel)) ggL_law_X5_many
set_option maxRecDepth 20000 in
theorem ggL_law_X6_many : GoodIn wsL_law wsX6_many := goodIn_r _ [798, 236, 92, 239, 312, 313, 314, 5, 315, 238, 88, 89, 316, 317, 318, 319, 320, 321, 322, 323, 249, 250, 251, 324, 325, 326, 809, 810, 811, 812, 813, 814, 815, 816, 817, 818, 819, 820, 821, 822, 823, 824, 825, 826, 827, 828, 829, 830, 831, 832, 833, 834, 835] (by decide +kernel) (by decide +kernel)
set_option maxRecDepth 20000 in
theorem gL_law_X6_many : GoodIn wsL_law (wsV RL 149 RX6 yX6_many wsX6_many) := goodIn_app (goodIn_r _ [795, 796, 797, 5] (by decide +kernel) (by decide +kernel)) ggL_law_X6_many
