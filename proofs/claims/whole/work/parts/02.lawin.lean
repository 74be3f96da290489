theorem pl_in {big ws : List Cond} (ps : List Nat) (hp : ws = ps.filterMap (fun i => big[i]?)) : ∀ w ∈ ws, w ∈ big := by
  intro w hw
  rw [hp] at hw
  obtain ⟨i, -, hi⟩ := List.mem_filterMap.mp hw
  first | exact List.mem_of_getElem? hi | exact List.getElem?_mem hi
set_option maxRecDepth 100000 in
theorem wsL_law_r1_in : ∀ w ∈ wsL_law_r1, w ∈ lw_tbl := pl_in [69, 70, 59, 652, 653, 65, 71, 72, 73, 74, 75, 76, 77, 78, 60, 219, 95, 96, 61, 220, 129, 130, 62, 221] (by decide +kernel)
set_option maxRecDepth 100000 in
theorem wsL_law_r2_in : ∀ w ∈ wsL_law_r2, w ∈ lw_tbl := pl_in [172, 173, 63, 222, 195, 196, 64, 223, 94, 224, 225, 226, 227, 228, 79, 80, 81, 82, 83, 85, 86, 97, 98, 99] (by decide +kernel)
set_option maxRecDepth 100000 in
theorem wsL_law_r3_in : ∀ w ∈ wsL_law_r3, w ∈ lw_tbl := pl_in [100, 101, 103, 105, 107, 131, 132, 133, 134, 135, 137, 139, 142, 144, 145, 174, 175, 176, 177, 194, 178, 179, 180, 197] (by decide +kernel)
set_option maxRecDepth 100000 in
theorem wsL_law_r4_in : ∀ w ∈ wsL_law_r4, w ∈ lw_tbl := pl_in [198, 199, 200, 201, 202, 203, 215, 217, 0, 218, 654, 655, 656, 657, 660, 661, 663, 664, 665, 666, 667, 671, 672, 673] (by decide +kernel)
set_option maxRecDepth 100000 in
theorem wsL_law_r5_in : ∀ w ∈ wsL_law_r5, w ∈ lw_tbl := pl_in [674, 676, 677, 678, 679, 680, 681, 682, 683, 250, 251, 252, 253, 205, 147, 254, 256, 1, 257, 258, 259, 260, 261, 262] (by decide +kernel)
set_option maxRecDepth 100000 in
theorem wsL_law_r6_in : ∀ w ∈ wsL_law_r6, w ∈ lw_tbl := pl_in [263, 264, 265, 266, 267, 268, 269, 271, 2, 272, 273, 274, 275, 276, 277, 278, 279, 280, 281, 282, 283, 284, 109, 111] (by decide +kernel)
set_option maxRecDepth 100000 in
theorem wsL_law_r7_in : ∀ w ∈ wsL_law_r7, w ∈ lw_tbl := pl_in [113, 285, 286, 287, 288, 289, 290, 291, 292, 293, 295, 3, 296, 297, 299, 4, 300, 301, 303, 5, 304, 305, 307, 6] (by decide +kernel)
set_option maxRecDepth 100000 in
theorem wsL_law_r8_in : ∀ w ∈ wsL_law_r8, w ∈ lw_tbl := pl_in [308, 309, 311, 7, 312, 313, 315, 8, 316, 317, 319, 9, 320, 321, 323, 10, 324, 325, 326, 327, 328, 110, 146, 102] (by decide +kernel)
set_option maxRecDepth 100000 in
theorem wsL_law_r9_in : ∀ w ∈ wsL_law_r9, w ∈ lw_tbl := pl_in [104, 329, 331, 11, 332, 152, 149, 333, 334, 335, 336, 337, 339, 12, 340, 112, 106, 108, 342, 343, 344, 346, 13, 347] (by decide +kernel)
set_option maxRecDepth 100000 in
theorem wsL_law_r10_in : ∀ w ∈ wsL_law_r10, w ∈ lw_tbl := pl_in [348, 350, 14, 351, 352, 354, 15, 355, 357, 358, 359, 361, 16, 362, 740, 741, 742, 743, 668, 669, 659, 670, 662, 675] (by decide +kernel)
set_option maxRecDepth 100000 in
theorem wsL_law_r11_in : ∀ w ∈ wsL_law_r11, w ∈ lw_tbl := pl_in [744, 746, 33, 747, 759, 748, 749, 750, 751, 752, 753, 754, 755, 757, 34, 758, 658, 760, 762, 35, 763, 764, 765, 766] (by decide +kernel)
set_option maxRecDepth 100000 in
theorem wsL_law_r12_in : ∀ w ∈ wsL_law_r12, w ∈ lw_tbl := pl_in [767, 769, 36, 770, 771, 773, 37, 774, 775, 777, 38, 778, 779, 781, 39, 782, 783, 785, 40, 786, 363, 364, 365, 366] (by decide +kernel)
set_option maxRecDepth 100000 in
theorem wsL_law_r13_in : ∀ w ∈ wsL_law_r13, w ∈ lw_tbl := pl_in [136, 138, 367, 368, 369, 370, 371, 787, 788, 789, 790, 791, 793, 41, 794, 372, 373, 374, 375, 151, 795, 796, 797, 798] (by decide +kernel)
set_option maxRecDepth 100000 in
theorem wsL_law_r14_in : ∀ w ∈ wsL_law_r14, w ∈ lw_tbl := pl_in [799, 801, 42, 802, 803, 805, 43, 806, 807, 809, 44, 810, 811, 812, 813, 376, 377, 378, 379, 143, 380, 381, 382, 383] (by decide +kernel)
set_option maxRecDepth 100000 in
theorem wsL_law_r15_in : ∀ w ∈ wsL_law_r15, w ∈ lw_tbl := pl_in [814, 815, 816, 817, 818, 820, 45, 821, 384, 385, 386, 387, 388, 390, 17, 391, 392, 393, 394, 395, 396, 397, 398, 399] (by decide +kernel)
set_option maxRecDepth 100000 in
theorem wsL_law_r16_in : ∀ w ∈ wsL_law_r16, w ∈ lw_tbl := pl_in [400, 401, 402, 403, 405, 18, 406, 822, 823, 824, 825, 826, 827, 828, 829, 407, 408, 409, 410, 411, 412, 413, 830, 831] (by decide +kernel)
set_option maxRecDepth 100000 in
theorem wsL_law_r17_in : ∀ w ∈ wsL_law_r17, w ∈ lw_tbl := pl_in [832, 833, 834, 414, 415, 416, 417, 418, 420, 19, 421, 422, 423, 424, 425, 835, 836, 837, 838, 839, 841, 46, 842, 843] (by decide +kernel)
set_option maxRecDepth 100000 in
theorem wsL_law_r18_in : ∀ w ∈ wsL_law_r18, w ∈ lw_tbl := pl_in [845, 47, 846, 427, 428, 429, 430, 847, 848, 849, 850, 431, 432, 433, 434, 150, 141, 435, 437, 20, 438, 851, 852, 853] (by decide +kernel)
set_option maxRecDepth 100000 in
theorem wsL_law_r19_in : ∀ w ∈ wsL_law_r19, w ∈ lw_tbl := pl_in [854, 855, 857, 48, 858, 439, 440, 441, 442, 443, 859, 860, 861, 862, 444, 445, 446, 447, 451, 448, 449, 450, 452, 453] (by decide +kernel)
set_option maxRecDepth 100000 in
theorem wsL_law_r20_in : ∀ w ∈ wsL_law_r20, w ∈ lw_tbl := pl_in [454, 455, 456, 457, 458, 863, 864, 865, 866, 867, 868, 869, 870, 871, 872, 873, 459, 460, 461, 462, 463, 465, 21, 466] (by decide +kernel)
set_option maxRecDepth 100000 in
theorem wsL_law_r21_in : ∀ w ∈ wsL_law_r21, w ∈ lw_tbl := pl_in [467, 468, 469, 470, 148, 471, 472, 66, 473, 181, 474, 475, 476, 477, 140, 478, 479, 480, 481, 482, 182, 483, 485, 22] (by decide +kernel)
set_option maxRecDepth 100000 in
theorem wsL_law_r22_in : ∀ w ∈ wsL_law_r22, w ∈ lw_tbl := pl_in [486, 874, 875, 876, 877, 878, 879, 881, 49, 882, 883, 885, 50, 886, 487, 488, 489, 490, 491, 492, 493, 494, 495, 887] (by decide +kernel)
set_option maxRecDepth 100000 in
theorem wsL_law_r23_in : ∀ w ∈ wsL_law_r23, w ∈ lw_tbl := pl_in [888, 889, 890, 496, 497, 498, 499, 500, 501, 502, 503, 891, 892, 893, 894, 895, 897, 51, 898, 504, 505, 506, 507, 508] (by decide +kernel)
set_option maxRecDepth 100000 in
theorem wsL_law_r24_in : ∀ w ∈ wsL_law_r24, w ∈ lw_tbl := pl_in [510, 23, 511, 899, 900, 901, 902, 903, 905, 52, 906, 512, 513, 514, 515, 516, 517, 67, 518, 519, 520, 521, 522, 524] (by decide +kernel)
set_option maxRecDepth 100000 in
theorem wsL_law_r25_in : ∀ w ∈ wsL_law_r25, w ∈ lw_tbl := pl_in [24, 525, 907, 908, 909, 910, 911, 912, 913, 914, 916, 53, 917, 526, 527, 528, 529, 918, 919, 920, 921, 530, 531, 532] (by decide +kernel)
set_option maxRecDepth 100000 in
theorem wsL_law_r26_in : ∀ w ∈ wsL_law_r26, w ∈ lw_tbl := pl_in [533, 534, 535, 536, 537, 204, 922, 923, 924, 925, 538, 539, 540, 541, 926, 927, 928, 929, 542, 543, 544, 545, 546, 547] (by decide +kernel)
set_option maxRecDepth 100000 in
theorem wsL_law_r27_in : ∀ w ∈ wsL_law_r27, w ∈ lw_tbl := pl_in [548, 549, 550, 930, 931, 932, 933, 934, 936, 54, 937, 551, 552, 553, 554, 555, 557, 25, 558, 559, 938, 939, 940, 941] (by decide +kernel)
set_option maxRecDepth 100000 in
theorem wsL_law_r28_in : ∀ w ∈ wsL_law_r28, w ∈ lw_tbl := pl_in [560, 561, 562, 563, 564, 565, 566, 567, 942, 943, 944, 945, 568, 569, 570, 571, 572, 573, 574, 575, 946, 947, 948, 949] (by decide +kernel)
set_option maxRecDepth 100000 in
theorem wsL_law_r29_in : ∀ w ∈ wsL_law_r29, w ∈ lw_tbl := pl_in [576, 577, 578, 579, 580, 581, 582, 583, 584, 950, 951, 952, 953, 954, 956, 55, 957, 585, 586, 587, 588, 958, 959, 960] (by decide +kernel)
set_option maxRecDepth 100000 in
theorem wsL_law_r30_in : ∀ w ∈ wsL_law_r30, w ∈ lw_tbl := pl_in [961, 962, 964, 56, 965, 589, 590, 591, 592, 84, 593, 594, 595, 596, 597, 599, 598, 68, 966, 967, 968, 969, 600, 601] (by decide +kernel)
set_option maxRecDepth 100000 in
theorem wsL_law_r31_in : ∀ w ∈ wsL_law_r31, w ∈ lw_tbl := pl_in [602, 603, 604, 606, 26, 607, 608, 610, 27, 611, 612, 614, 28, 615, 616, 618, 29, 619, 970, 971, 972, 973, 974, 976] (by decide +kernel)
set_option maxRecDepth 100000 in
theorem wsL_law_r32_in : ∀ w ∈ wsL_law_r32, w ∈ lw_tbl := pl_in [57, 977, 684, 620, 621, 622, 623, 624, 626, 30, 627, 628, 630, 31, 631, 978, 979, 980, 981, 632, 633, 634, 635, 982] (by decide +kernel)
set_option maxRecDepth 100000 in
theorem wsL_law_r33_in : ∀ w ∈ wsL_law_r33, w ∈ lw_tbl := pl_in [983, 984, 985, 636, 637, 638, 639, 986, 987, 988, 989, 640, 641, 642, 643, 990, 991, 992, 993, 644, 645, 646, 647, 648] (by decide +kernel)
set_option maxRecDepth 100000 in
theorem wsL_law_r34_in : ∀ w ∈ wsL_law_r34, w ∈ lw_tbl := pl_in [650, 32, 651, 994, 995, 996, 997] (by decide +kernel)
set_option maxRecDepth 100000 in
theorem inX0 : ∀ w ∈ wsX00, w ∈ lw_tbl := pl_in [183, 185, 187, 189, 191] (by decide +kernel)
set_option maxRecDepth 100000 in
theorem inX1 : ∀ w ∈ wsX10, w ∈ lw_tbl := pl_in [206, 208, 210, 212] (by decide +kernel)
set_option maxRecDepth 100000 in
theorem inX2 : ∀ w ∈ wsX20, w ∈ lw_tbl := pl_in [87, 89, 91] (by decide +kernel)
set_option maxRecDepth 100000 in
theorem inX3 : ∀ w ∈ wsX30, w ∈ lw_tbl := pl_in [114, 116, 118, 120, 122, 124, 126] (by decide +kernel)
set_option maxRecDepth 100000 in
theorem inX4 : ∀ w ∈ wsX40, w ∈ lw_tbl := pl_in [153, 155, 157, 159, 161, 163, 165, 167, 169] (by decide +kernel)
set_option maxRecDepth 100000 in
theorem inX5 : ∀ w ∈ wsX50, w ∈ lw_tbl := pl_in [229, 231, 233, 235, 237, 239, 241, 243, 245, 247] (by decide +kernel)
set_option maxRecDepth 100000 in
theorem inX6 : ∀ w ∈ wsX60, w ∈ lw_tbl := pl_in [685, 687, 689, 691, 693, 695, 697, 699, 701, 703, 705, 707, 709, 711, 713, 715, 717, 719, 721, 723, 725, 727, 729, 731, 733, 735, 737] (by decide +kernel)
theorem app_in {big a b : List Cond} (ha : ∀ w ∈ a, w ∈ big) (hb : ∀ w ∈ b, w ∈ big) : ∀ w ∈ a ++ b, w ∈ big := fun w h => (List.mem_append.mp h).elim (ha w) (hb w)
theorem wsL_law_in : ∀ w ∈ wsL_law, w ∈ lw_tbl := app_in (app_in (app_in (app_in (app_in (app_in (app_in (app_in (app_in wsL_law_r1_in (app_in wsL_law_r2_in (app_in wsL_law_r3_in (app_in wsL_law_r4_in (app_in wsL_law_r5_in (app_in wsL_law_r6_in (app_in wsL_law_r7_in (app_in wsL_law_r8_in (app_in wsL_law_r9_in (app_in wsL_law_r10_in (app_in wsL_law_r11_in (app_in wsL_law_r12_in (app_in wsL_law_r13_in (app_in wsL_law_r14_in (app_in wsL_law_r15_in (app_in wsL_law_r16_in (app_in wsL_law_r17_in (app_in wsL_law_r18_in (app_in wsL_law_r19_in (app_in wsL_law_r20_in (app_in wsL_law_r21_in (app_in wsL_law_r22_in (app_in wsL_law_r23_in (app_in wsL_law_r24_in (app_in wsL_law_r25_in (app_in wsL_law_r26_in (app_in wsL_law_r27_in (app_in wsL_law_r28_in (app_in wsL_law_r29_in (app_in wsL_law_r30_in (app_in wsL_law_r31_in (app_in wsL_law_r32_in (app_in wsL_law_r33_in (wsL_law_r34_in)))))))))))))))))))))))))))))))))) inX5) inX6) inX2) inX3) inX4) inX0) inX1) (fun _ h => absurd h List.not_mem_nil)
theorem inJ6 : ∀ w ∈ wsJ60, w ∈ lw_tbl := by decide +kernel
theorem inJ9 : ∀ w ∈ wsJ90, w ∈ lw_tbl := by decide +kernel
theorem inJ10 : ∀ w ∈ wsJ100, w ∈ lw_tbl := by decide +kernel
