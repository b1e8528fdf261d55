theorem inlX0 : ∀ w ∈ wsX00, w ∈ wsL_law := fun _ h => List.mem_append_left _ (List.mem_append_left _ (List.mem_append_right _ h))
theorem inX0 : ∀ w ∈ wsX00, w ∈ lw_tbl := fun w h => wsL_law_in w (inlX0 w h)
theorem inlX1 : ∀ w ∈ wsX10, w ∈ wsL_law := fun _ h => List.mem_append_left _ (List.mem_append_left _ (List.mem_append_left _ (List.mem_append_left _ (List.mem_append_left _ (List.mem_append_left _ (List.mem_append_right _ h))))))
theorem inX1 : ∀ w ∈ wsX10, w ∈ lw_tbl := fun w h => wsL_law_in w (inlX1 w h)
theorem inlX2 : ∀ w ∈ wsX20, w ∈ wsL_law := fun _ h => List.mem_append_left _ (List.mem_append_right _ h)
theorem inX2 : ∀ w ∈ wsX20, w ∈ lw_tbl := fun w h => wsL_law_in w (inlX2 w h)
theorem inlX3 : ∀ w ∈ wsX30, w ∈ wsL_law := fun _ h => List.mem_append_left _ (List.mem_append_left _ (List.mem_append_left _ (List.mem_append_left _ (List.mem_append_left _ (List.mem_append_right _ h)))))
theorem inX3 : ∀ w ∈ wsX30, w ∈ lw_tbl := fun w h => wsL_law_in w (inlX3 w h)
theorem inlX4 : ∀ w ∈ wsX40, w ∈ wsL_law := fun _ h => List.mem_append_left _ (List.mem_append_left _ (List.mem_append_left _ (List.mem_append_left _ (List.mem_append_right _ h))))
theorem inX4 : ∀ w ∈ wsX40, w ∈ lw_tbl := fun w h => wsL_law_in w (inlX4 w h)
theorem inlX5 : ∀ w ∈ wsX50, w ∈ wsL_law := fun _ h => List.mem_append_left _ (List.mem_append_left _ (List.mem_append_left _ (List.mem_append_left _ (List.mem_append_left _ (List.mem_append_left _ (List.mem_append_left _ (List.mem_append_right _ h)))))))
theorem inX5 : ∀ w ∈ wsX50, w ∈ lw_tbl := fun w h => wsL_law_in w (inlX5 w h)
theorem inlX6 : ∀ w ∈ wsX60, w ∈ wsL_law := fun _ h => List.mem_append_left _ (List.mem_append_left _ (List.mem_append_left _ (List.mem_append_right _ h)))
theorem inX6 : ∀ w ∈ wsX60, w ∈ lw_tbl := fun w h => wsL_law_in w (inlX6 w h)
theorem inlX7 : ∀ w ∈ wsX70, w ∈ wsL_law := fun _ h => List.mem_append_left _ (List.mem_append_left _ (List.mem_append_left _ (List.mem_append_left _ (List.mem_append_left _ (List.mem_append_left _ (List.mem_append_left _ (List.mem_append_left _ (List.mem_append_left _ (List.mem_append_right _ h)))))))))
theorem inX7 : ∀ w ∈ wsX70, w ∈ lw_tbl := fun w h => wsL_law_in w (inlX7 w h)
theorem inlX8 : ∀ w ∈ wsX80, w ∈ wsL_law := fun _ h => List.mem_append_left _ (List.mem_append_left _ (List.mem_append_left _ (List.mem_append_left _ (List.mem_append_left _ (List.mem_append_left _ (List.mem_append_left _ (List.mem_append_left _ (List.mem_append_right _ h))))))))
theorem inX8 : ∀ w ∈ wsX80, w ∈ lw_tbl := fun w h => wsL_law_in w (inlX8 w h)
theorem inJ9 : ∀ w ∈ wsJ90, w ∈ lw_tbl := by decide +kernel
set_option maxRecDepth 20000 in
theorem ggL_law_X7_init : GoodIn wsL_law wsX7_init := goodIn_r _ [8, 9, 10, 11, 12, 13, 14, 15, 16, 17, 18, 19, 20, 21, 22, 23, 24, 25, 26, 27, 28, 29, 30, 31, 32, 33, 34, 35, 36, 37, 38, 39, 40, 41, 42, 43, 44, 45, 46, 47, 48, 49, 50, 51, 52, 53, 54, 55, 56, 57, 58, 59, 60, 61, 62, 63, 64, 65, 66, 67, 68, 69, 70, 71, 72, 73, 74, 75, 76, 77, 78, 79, 80, 81, 82, 83, 84, 85, 86, 87, 88, 89, 90, 91, 92, 874, 875, 876, 877, 878, 879, 821, 822, 823, 824, 825, 826, 827, 828, 829, 880, 881, 882, 883, 884, 885, 886, 887, 888, 889, 890, 891, 892, 893, 894, 895, 896, 897, 898, 899, 900, 901, 902, 903, 904, 905, 906, 907, 908, 909, 910, 911, 912, 913] (by decide +kernel) (by decide +kernel)
set_option maxRecDepth 20000 in
theorem gL_law_X7_init : GoodIn wsL_law (wsX7_init) := ggL_law_X7_init
set_option maxRecDepth 20000 in
theorem ggL_law_X8_init : GoodIn wsL_law wsX8_init := goodIn_r _ [95, 96, 10, 11, 43, 97, 98, 99, 100, 101, 38, 102, 103, 104, 105, 106, 107, 108, 109, 110, 111, 112, 113, 114, 115, 116, 117, 118, 119, 120, 121, 122, 123, 124, 125, 126, 5, 127, 128, 129, 130, 131, 132, 133, 134, 135, 136, 137, 138, 139, 140, 141, 142, 143, 144, 145, 146, 147, 148, 149, 150, 151, 152, 153, 154, 155, 156, 157, 158, 159, 160, 161, 162, 163, 164, 165, 166, 167, 168, 169, 170, 830, 831, 832, 833, 834, 835, 836, 837, 838, 839, 840, 841, 842, 843, 844, 845, 846, 847, 848, 849, 850, 851, 852, 853, 854, 855, 856, 857, 858, 859, 860, 861, 862, 863, 864, 865, 866, 867, 868, 869, 870, 871, 872, 873] (by decide +kernel) (by decide +kernel)
set_option maxRecDepth 20000 in
theorem gL_law_X8_init : GoodIn wsL_law (wsX8_init) := ggL_law_X8_init
set_option maxRecDepth 20000 in
theorem ggL_law_X7_type : GoodIn wsL_law wsX7_type := goodIn_r _ [174, 15, 175, 176, 177, 178, 14, 179, 180, 44, 821, 822, 823, 824, 825, 826, 827, 828, 829, 874, 875, 876, 877, 878, 879] (by decide +kernel) (by decide +kernel)
set_option maxRecDepth 20000 in
theorem gL_law_X7_type : GoodIn wsL_law (wsV RL 13 RX7 yX7_type wsX7_type) := goodIn_app (goodIn_of _ (by decide +kernel)) ggL_law_X7_type
set_option maxRecDepth 20000 in
theorem ggL_law_X8_type : GoodIn wsL_law wsX8_type := goodIn_r _ [184, 185, 186, 113, 187, 188, 5, 189, 830, 831, 832, 833, 834, 835, 836, 837, 838, 839, 840, 841, 842, 843, 844, 845, 846, 847, 848, 849, 850, 851, 852, 853, 854, 855, 856, 857, 858, 859, 860, 861, 862, 863, 864, 865, 866, 867, 868, 869, 870, 871, 872, 873] (by decide +kernel) (by decide +kernel)
set_option maxRecDepth 20000 in
theorem gL_law_X8_type : GoodIn wsL_law (wsV RL 17 RX8 yX8_type wsX8_type) := goodIn_app (goodIn_of _ (by decide +kernel)) ggL_law_X8_type
set_option maxRecDepth 20000 in
theorem ggL_law_X7_clear : GoodIn wsL_law wsX7_clear := goodIn_r _ [193, 15, 175, 821, 822, 823, 824, 825, 826, 827, 828, 829, 874, 875, 876, 877, 878, 879] (by decide +kernel) (by decide +kernel)
set_option maxRecDepth 20000 in
theorem gL_law_X7_clear : GoodIn wsL_law (wsV RL 18 RX7 yX7_clear wsX7_clear) := goodIn_app (goodIn_of _ (by decide +kernel)) ggL_law_X7_clear
set_option maxRecDepth 20000 in
theorem ggL_law_X8_clear : GoodIn wsL_law wsX8_clear := goodIn_r _ [197, 185, 186, 830, 831, 832, 833, 834, 835, 836, 837, 838, 839, 840, 841, 842, 843, 844, 845, 846, 847, 848, 849, 850, 851, 852, 853, 854, 855, 856, 857, 858, 859, 860, 861, 862, 863, 864, 865, 866, 867, 868, 869, 870, 871, 872, 873] (by decide +kernel) (by decide +kernel)
set_option maxRecDepth 20000 in
theorem gL_law_X8_clear : GoodIn wsL_law (wsV RL 22 RX8 yX8_clear wsX8_clear) := goodIn_app (goodIn_of _ (by decide +kernel)) ggL_law_X8_clear
set_option maxRecDepth 20000 in
theorem ggL_law_X7_land : GoodIn wsL_law wsX7_land := goodIn_r _ [201, 15, 20, 175, 19, 24, 202, 28, 203, 36, 204, 39, 32, 205, 206, 207, 208, 14, 209, 210, 211, 212, 213, 214, 215, 18, 216, 217, 218, 53, 54, 219, 220, 221, 222, 180, 44, 223, 224, 225, 226, 227, 228, 229, 230, 231, 232, 233, 234, 235, 236, 237, 238, 239, 240, 241, 242, 243, 244, 245, 246, 247, 248, 2, 249, 250, 251, 252, 253, 254, 255, 256, 257, 48, 49, 50, 258, 259, 260, 261, 262, 263, 264, 265, 266, 267, 51, 52, 268, 269, 270, 271, 272, 273, 274, 275, 276, 277, 278, 279, 280, 281, 282, 283, 284, 285, 286, 287, 55, 288, 289, 290, 291, 292, 293, 294, 295, 296, 297, 298, 299, 300, 301, 302, 303, 304, 305, 306, 307, 308, 309, 310, 311, 312, 313, 314, 315, 316, 317, 318, 319, 320, 321, 322, 323, 324, 325, 821, 822, 823, 824, 825, 826, 827, 828, 829, 874, 875, 876, 877, 878, 879, 891, 892, 893, 894, 895, 896, 907, 908, 909, 910, 897, 898, 899, 900, 901, 902, 903, 904, 905, 906, 880, 881, 882, 883, 884, 885, 886, 887, 888, 889, 890] (by decide +kernel) (by decide +kernel)
set_option maxRecDepth 20000 in
theorem gL_law_X7_land : GoodIn wsL_law (wsV RL 23 RX7 yX7_land wsX7_land) := goodIn_app (goodIn_of _ (by decide +kernel)) ggL_law_X7_land
set_option maxRecDepth 20000 in
theorem ggL_law_X8_land : GoodIn wsL_law wsX8_land := goodIn_r _ [329, 185, 330, 331, 332, 186, 124, 125, 126, 5, 127, 128, 129, 130, 333, 334, 335, 336, 113, 337, 338, 339, 340, 187, 188, 189, 341, 342, 343, 344, 345, 346, 347, 348, 349, 114, 115, 116, 350, 351, 352, 353, 354, 355, 356, 357, 117, 118, 131, 132, 133, 134, 135, 97, 98, 99, 136, 100, 101, 137, 106, 138, 139, 109, 140, 141, 142, 143, 102, 103, 104, 105, 144, 145, 146, 147, 148, 149, 150, 151, 152, 153, 154, 155, 156, 157, 158, 159, 160, 161, 162, 163, 164, 165, 166, 167, 168, 169, 170, 830, 831, 832, 833, 834, 835, 836, 837, 838, 839, 840, 841, 842, 843, 844, 845, 846, 847, 848, 849, 850, 851, 852, 853, 854, 855, 856, 857, 858, 859, 860, 861, 862, 863, 864, 865, 866, 867, 868, 869, 870, 871, 872, 873] (by decide +kernel) (by decide +kernel)
set_option maxRecDepth 20000 in
theorem gL_law_X8_land : GoodIn wsL_law (wsV RL 26 RX8 yX8_land wsX8_land) := goodIn_app (goodIn_of _ (by decide +kernel)) ggL_law_X8_land
set_option maxRecDepth 20000 in
theorem ggL_law_X7_peak : GoodIn wsL_law wsX7_peak := goodIn_r _ [361, 19, 362, 363, 364, 365, 269, 270, 18, 271, 217, 821, 822, 823, 824, 825, 826, 827, 828, 829, 880, 881, 882, 883, 884, 885, 886, 887, 888, 889, 890] (by decide +kernel) (by decide +kernel)
set_option maxRecDepth 20000 in
theorem gL_law_X7_peak : GoodIn wsL_law (wsV RL 27 RX7 yX7_peak wsX7_peak) := goodIn_app (goodIn_of _ (by decide +kernel)) ggL_law_X7_peak
set_option maxRecDepth 20000 in
theorem ggL_law_X8_peak : GoodIn wsL_law wsX8_peak := goodIn_r _ [369, 185, 97, 98, 99, 370, 371, 372, 5, 373, 135, 187, 188, 189, 830, 831, 832, 833, 834, 835, 836, 837, 838, 839, 840, 841, 842, 843, 844, 845, 846, 847, 848, 849, 850, 851, 852, 853, 854, 855, 856, 857, 858, 859, 860, 861, 862, 863, 864, 865, 866, 867, 868, 869, 870, 871, 872, 873] (by decide +kernel) (by decide +kernel)
set_option maxRecDepth 20000 in
theorem gL_law_X8_peak : GoodIn wsL_law (wsV RL 31 RX8 yX8_peak wsX8_peak) := goodIn_app (goodIn_of _ (by decide +kernel)) ggL_law_X8_peak
set_option maxRecDepth 20000 in
theorem ggL_law_X7_ridge : GoodIn wsL_law wsX7_ridge := goodIn_r _ [377, 19, 378, 379, 380, 821, 822, 823, 824, 825, 826, 827, 828, 829, 880, 881, 882, 883, 884, 885, 886, 887, 888, 889, 890] (by decide +kernel) (by decide +kernel)
set_option maxRecDepth 20000 in
theorem gL_law_X7_ridge : GoodIn wsL_law (wsV RL 32 RX7 yX7_ridge wsX7_ridge) := goodIn_app (goodIn_of _ (by decide +kernel)) ggL_law_X7_ridge
set_option maxRecDepth 20000 in
theorem ggL_law_X8_ridge : GoodIn wsL_law wsX8_ridge := goodIn_r _ [384, 185, 136, 100, 101, 187, 188, 5, 189, 830, 831, 832, 833, 834, 835, 836, 837, 838, 839, 840, 841, 842, 843, 844, 845, 846, 847, 848, 849, 850, 851, 852, 853, 854, 855, 856, 857, 858, 859, 860, 861, 862, 863, 864, 865, 866, 867, 868, 869, 870, 871, 872, 873] (by decide +kernel) (by decide +kernel)
set_option maxRecDepth 20000 in
theorem gL_law_X8_ridge : GoodIn wsL_law (wsV RL 35 RX8 yX8_ridge wsX8_ridge) := goodIn_app (goodIn_of _ (by decide +kernel)) ggL_law_X8_ridge
set_option maxRecDepth 20000 in
theorem ggL_law_X7_notes : GoodIn wsL_law wsX7_notes := goodIn_r _ [388, 24, 202, 389, 390, 2, 391, 392, 393, 394, 395, 396, 397, 398, 28, 32, 205, 399, 400, 401, 27, 402, 67, 403, 404, 405, 232, 233, 234, 406, 407, 408, 23, 409, 410, 60, 61, 411, 412, 413, 414, 821, 822, 823, 824, 825, 826, 827, 828, 829, 891, 892, 893, 897, 898, 899, 900, 901, 902, 903, 904, 905, 906, 894, 895, 896] (by decide +kernel) (by decide +kernel)
set_option maxRecDepth 20000 in
theorem gL_law_X7_notes : GoodIn wsL_law (wsV RL 36 RX7 yX7_notes wsX7_notes) := goodIn_app (goodIn_of _ (by decide +kernel)) ggL_law_X7_notes
set_option maxRecDepth 20000 in
theorem ggL_law_X8_notes : GoodIn wsL_law wsX8_notes := goodIn_r _ [418, 185, 106, 419, 420, 5, 421, 187, 188, 189, 422, 423, 424, 425, 138, 107, 426, 427, 428, 429, 830, 831, 832, 833, 834, 835, 836, 837, 838, 839, 840, 841, 842, 843, 844, 845, 846, 847, 848, 849, 850, 851, 852, 853, 854, 855, 856, 857, 858, 859, 860, 861, 862, 863, 864, 865, 866, 867, 868, 869, 870, 871, 872, 873] (by decide +kernel) (by decide +kernel)
set_option maxRecDepth 20000 in
theorem gL_law_X8_notes : GoodIn wsL_law (wsV RL 39 RX8 yX8_notes wsX8_notes) := goodIn_app (goodIn_of _ (by decide +kernel)) ggL_law_X8_notes
set_option maxRecDepth 20000 in
theorem ggL_law_X7_erases : GoodIn wsL_law wsX7_erases := goodIn_r _ [433, 24, 202, 434, 435, 436, 23, 437, 410, 395, 396, 397, 2, 398, 28, 32, 205, 399, 400, 401, 27, 402, 67, 403, 404, 405, 232, 233, 234, 406, 407, 408, 409, 60, 61, 438, 439, 440, 441, 442, 821, 822, 823, 824, 825, 826, 827, 828, 829, 891, 892, 893, 897, 898, 899, 900, 901, 902, 903, 904, 905, 906, 894, 895, 896] (by decide +kernel) (by decide +kernel)
set_option maxRecDepth 20000 in
theorem gL_law_X7_erases : GoodIn wsL_law (wsV RL 40 RX7 yX7_erases wsX7_erases) := goodIn_app (goodIn_of _ (by decide +kernel)) ggL_law_X7_erases
set_option maxRecDepth 20000 in
theorem ggL_law_X8_erases : GoodIn wsL_law wsX8_erases := goodIn_r _ [446, 185, 106, 447, 448, 449, 5, 450, 187, 188, 189, 422, 423, 424, 425, 138, 107, 830, 831, 832, 833, 834, 835, 836, 837, 838, 839, 840, 841, 842, 843, 844, 845, 846, 847, 848, 849, 850, 851, 852, 853, 854, 855, 856, 857, 858, 859, 860, 861, 862, 863, 864, 865, 866, 867, 868, 869, 870, 871, 872, 873] (by decide +kernel) (by decide +kernel)
set_option maxRecDepth 20000 in
theorem gL_law_X8_erases : GoodIn wsL_law (wsV RL 43 RX8 yX8_erases wsX8_erases) := goodIn_app (goodIn_of _ (by decide +kernel)) ggL_law_X8_erases
set_option maxRecDepth 20000 in
theorem ggL_law_X7_mends : GoodIn wsL_law wsX7_mends := goodIn_r _ [454, 24, 455, 456, 434, 435, 436, 23, 437, 410, 389, 390, 2, 391, 392, 393, 394, 395, 396, 397, 398, 28, 32, 205, 399, 400, 401, 27, 402, 67, 403, 404, 405, 232, 233, 234, 406, 407, 408, 409, 60, 61, 821, 822, 823, 824, 825, 826, 827, 828, 829, 891, 892, 893, 897, 898, 899, 900, 901, 902, 903, 904, 905, 906, 894, 895, 896] (by decide +kernel) (by decide +kernel)
set_option maxRecDepth 20000 in
theorem gL_law_X7_mends : GoodIn wsL_law (wsV RL 44 RX7 yX7_mends wsX7_mends) := goodIn_app (goodIn_of _ (by decide +kernel)) ggL_law_X7_mends
set_option maxRecDepth 20000 in
theorem ggL_law_X8_mends : GoodIn wsL_law wsX8_mends := goodIn_r _ [460, 185, 106, 447, 448, 449, 5, 450, 187, 188, 189, 419, 420, 421, 422, 423, 424, 425, 138, 107, 830, 831, 832, 833, 834, 835, 836, 837, 838, 839, 840, 841, 842, 843, 844, 845, 846, 847, 848, 849, 850, 851, 852, 853, 854, 855, 856, 857, 858, 859, 860, 861, 862, 863, 864, 865, 866, 867, 868, 869, 870, 871, 872, 873] (by decide +kernel) (by decide +kernel)
set_option maxRecDepth 20000 in
theorem gL_law_X8_mends : GoodIn wsL_law (wsV RL 48 RX8 yX8_mends wsX8_mends) := goodIn_app (goodIn_of _ (by decide +kernel)) ggL_law_X8_mends
set_option maxRecDepth 20000 in
theorem ggL_law_X7_sketches : GoodIn wsL_law wsX7_sketches := goodIn_r _ [464, 19, 24, 202, 465, 466, 245, 246, 18, 247, 54, 248, 2, 249, 392, 393, 394, 395, 396, 397, 398, 28, 32, 205, 399, 400, 401, 27, 402, 67, 403, 404, 405, 232, 233, 234, 406, 407, 408, 23, 409, 410, 60, 61, 467, 468, 469, 470, 471, 217, 56, 472, 473, 474, 475, 55, 476, 477, 478, 479, 480, 481, 482, 483, 310, 311, 312, 313, 49, 306, 307, 308, 309, 48, 318, 319, 320, 321, 296, 297, 298, 299, 300, 301, 302, 303, 304, 305, 484, 485, 486, 487, 488, 489, 490, 491, 492, 493, 494, 495, 496, 497, 498, 50, 411, 412, 413, 414, 821, 822, 823, 824, 825, 826, 827, 828, 829, 891, 892, 893, 880, 881, 882, 883, 884, 885, 886, 887, 888, 889, 890, 897, 898, 899, 900, 901, 902, 903, 904, 905, 906, 894, 895, 896] (by decide +kernel) (by decide +kernel)
set_option maxRecDepth 20000 in
theorem gL_law_X7_sketches : GoodIn wsL_law (wsV RL 49 RX7 yX7_sketches wsX7_sketches) := goodIn_app (goodIn_of _ (by decide +kernel)) ggL_law_X7_sketches
set_option maxRecDepth 20000 in
theorem ggL_law_X8_sketches : GoodIn wsL_law wsX8_sketches := goodIn_r _ [502, 185, 106, 104, 105, 503, 504, 505, 5, 506, 102, 187, 188, 189, 507, 508, 509, 422, 423, 424, 425, 138, 107, 510, 511, 512, 513, 103, 135, 514, 515, 516, 517, 97, 98, 518, 519, 520, 152, 153, 154, 155, 156, 157, 158, 159, 160, 426, 427, 428, 429, 830, 831, 832, 833, 834, 835, 836, 837, 838, 839, 840, 841, 842, 843, 844, 845, 846, 847, 848, 849, 850, 851, 852, 853, 854, 855, 856, 857, 858, 859, 860, 861, 862, 863, 864, 865, 866, 867, 868, 869, 870, 871, 872, 873] (by decide +kernel) (by decide +kernel)
set_option maxRecDepth 20000 in
theorem gL_law_X8_sketches : GoodIn wsL_law (wsV RL 52 RX8 yX8_sketches wsX8_sketches) := goodIn_app (goodIn_of _ (by decide +kernel)) ggL_law_X8_sketches
set_option maxRecDepth 20000 in
theorem ggL_law_X7_undo : GoodIn wsL_law wsX7_undo := goodIn_r _ [524, 28, 203, 24, 32, 205, 525, 526, 527, 27, 528, 404, 403, 67, 406, 407, 408, 23, 409, 410, 60, 61, 821, 822, 823, 824, 825, 826, 827, 828, 829, 894, 895, 896, 897, 898, 899, 900, 901, 902, 903, 904, 905, 906, 891, 892, 893] (by decide +kernel) (by decide +kernel)
set_option maxRecDepth 20000 in
theorem gL_law_X7_undo : GoodIn wsL_law (wsV RL 53 RX7 yX7_undo wsX7_undo) := goodIn_app (goodIn_of _ (by decide +kernel)) ggL_law_X7_undo
set_option maxRecDepth 20000 in
theorem ggL_law_X8_undo : GoodIn wsL_law wsX8_undo := goodIn_r _ [532, 185, 138, 106, 107, 830, 831, 832, 833, 834, 835, 836, 837, 838, 839, 840, 841, 842, 843, 844, 845, 846, 847, 848, 849, 850, 851, 852, 853, 854, 855, 856, 857, 858, 859, 860, 861, 862, 863, 864, 865, 866, 867, 868, 869, 870, 871, 872, 873] (by decide +kernel) (by decide +kernel)
set_option maxRecDepth 20000 in
theorem gL_law_X8_undo : GoodIn wsL_law (wsV RL 56 RX8 yX8_undo wsX8_undo) := goodIn_app (goodIn_of _ (by decide +kernel)) ggL_law_X8_undo
set_option maxRecDepth 20000 in
theorem ggL_law_X7_seen : GoodIn wsL_law wsX7_seen := goodIn_r _ [536, 19, 466, 245, 246, 18, 247, 54, 248, 2, 249, 365, 269, 270, 271, 217, 467, 537, 473, 474, 475, 55, 821, 822, 823, 824, 825, 826, 827, 828, 829, 880, 881, 882, 883, 884, 885, 886, 887, 888, 889, 890] (by decide +kernel) (by decide +kernel)
set_option maxRecDepth 20000 in
theorem gL_law_X7_seen : GoodIn wsL_law (wsV RL 57 RX7 yX7_seen wsX7_seen) := goodIn_app (goodIn_of _ (by decide +kernel)) ggL_law_X7_seen
set_option maxRecDepth 20000 in
theorem ggL_law_X8_seen : GoodIn wsL_law wsX8_seen := goodIn_r _ [541, 185, 103, 503, 504, 505, 5, 506, 102, 187, 188, 189, 370, 371, 372, 373, 135, 830, 831, 832, 833, 834, 835, 836, 837, 838, 839, 840, 841, 842, 843, 844, 845, 846, 847, 848, 849, 850, 851, 852, 853, 854, 855, 856, 857, 858, 859, 860, 861, 862, 863, 864, 865, 866, 867, 868, 869, 870, 871, 872, 873] (by decide +kernel) (by decide +kernel)
set_option maxRecDepth 20000 in
theorem gL_law_X8_seen : GoodIn wsL_law (wsV RL 60 RX8 yX8_seen wsX8_seen) := goodIn_app (goodIn_of _ (by decide +kernel)) ggL_law_X8_seen
set_option maxRecDepth 20000 in
theorem ggL_law_X7_bearing : GoodIn wsL_law wsX7_bearing := goodIn_r _ [545, 19, 466, 245, 246, 18, 247, 54, 248, 2, 249, 365, 269, 270, 271, 217, 467, 484, 485, 486, 487, 300, 301, 233, 302, 306, 307, 308, 309, 48, 310, 311, 312, 313, 49, 488, 489, 490, 491, 821, 822, 823, 824, 825, 826, 827, 828, 829, 880, 881, 882, 883, 884, 885, 886, 887, 888, 889, 890] (by decide +kernel) (by decide +kernel)
set_option maxRecDepth 20000 in
theorem gL_law_X7_bearing : GoodIn wsL_law (wsV RL 61 RX7 yX7_bearing wsX7_bearing) := goodIn_app (goodIn_of _ (by decide +kernel)) ggL_law_X7_bearing
set_option maxRecDepth 20000 in
theorem ggL_law_X8_bearing : GoodIn wsL_law wsX8_bearing := goodIn_r _ [549, 185, 104, 503, 504, 505, 5, 506, 102, 187, 188, 189, 370, 371, 372, 373, 135, 830, 831, 832, 833, 834, 835, 836, 837, 838, 839, 840, 841, 842, 843, 844, 845, 846, 847, 848, 849, 850, 851, 852, 853, 854, 855, 856, 857, 858, 859, 860, 861, 862, 863, 864, 865, 866, 867, 868, 869, 870, 871, 872, 873] (by decide +kernel) (by decide +kernel)
set_option maxRecDepth 20000 in
theorem gL_law_X8_bearing : GoodIn wsL_law (wsV RL 64 RX8 yX8_bearing wsX8_bearing) := goodIn_app (goodIn_of _ (by decide +kernel)) ggL_law_X8_bearing
set_option maxRecDepth 20000 in
theorem ggL_law_X7_stands : GoodIn wsL_law wsX7_stands := goodIn_r _ [553, 19, 466, 245, 246, 18, 247, 54, 248, 2, 249, 365, 269, 270, 271, 217, 467, 495, 496, 497, 498, 50, 296, 297, 298, 299, 300, 301, 233, 302, 303, 304, 305, 306, 307, 308, 309, 48, 310, 311, 312, 313, 49, 821, 822, 823, 824, 825, 826, 827, 828, 829, 880, 881, 882, 883, 884, 885, 886, 887, 888, 889, 890] (by decide +kernel) (by decide +kernel)
set_option maxRecDepth 20000 in
theorem gL_law_X7_stands : GoodIn wsL_law (wsV RL 65 RX7 yX7_stands wsX7_stands) := goodIn_app (goodIn_of _ (by decide +kernel)) ggL_law_X7_stands
set_option maxRecDepth 20000 in
theorem ggL_law_X8_stands : GoodIn wsL_law wsX8_stands := goodIn_r _ [557, 185, 105, 503, 504, 505, 5, 506, 102, 187, 188, 189, 370, 371, 372, 373, 135, 830, 831, 832, 833, 834, 835, 836, 837, 838, 839, 840, 841, 842, 843, 844, 845, 846, 847, 848, 849, 850, 851, 852, 853, 854, 855, 856, 857, 858, 859, 860, 861, 862, 863, 864, 865, 866, 867, 868, 869, 870, 871, 872, 873] (by decide +kernel) (by decide +kernel)
set_option maxRecDepth 20000 in
theorem gL_law_X8_stands : GoodIn wsL_law (wsV RL 68 RX8 yX8_stands wsX8_stands) := goodIn_app (goodIn_of _ (by decide +kernel)) ggL_law_X8_stands
set_option maxRecDepth 20000 in
theorem ggL_law_X7_panorama : GoodIn wsL_law wsX7_panorama := goodIn_r _ [561, 19, 465, 466, 245, 246, 18, 247, 54, 248, 2, 249, 467, 468, 469, 470, 471, 217, 56, 472, 473, 474, 475, 55, 476, 477, 478, 479, 480, 481, 482, 483, 310, 311, 312, 313, 49, 306, 307, 308, 309, 48, 318, 319, 320, 321, 296, 297, 298, 299, 300, 301, 233, 302, 303, 304, 305, 821, 822, 823, 824, 825, 826, 827, 828, 829, 880, 881, 882, 883, 884, 885, 886, 887, 888, 889, 890] (by decide +kernel) (by decide +kernel)
set_option maxRecDepth 20000 in
theorem gL_law_X7_panorama : GoodIn wsL_law (wsV RL 69 RX7 yX7_panorama wsX7_panorama) := goodIn_app (goodIn_of _ (by decide +kernel)) ggL_law_X7_panorama
set_option maxRecDepth 20000 in
theorem ggL_law_X8_panorama : GoodIn wsL_law wsX8_panorama := goodIn_r _ [565, 185, 503, 504, 505, 5, 506, 102, 187, 188, 189, 510, 511, 512, 513, 103, 135, 514, 515, 516, 517, 97, 98, 518, 519, 520, 152, 153, 154, 155, 156, 157, 158, 159, 160, 830, 831, 832, 833, 834, 835, 836, 837, 838, 839, 840, 841, 842, 843, 844, 845, 846, 847, 848, 849, 850, 851, 852, 853, 854, 855, 856, 857, 858, 859, 860, 861, 862, 863, 864, 865, 866, 867, 868, 869, 870, 871, 872, 873] (by decide +kernel) (by decide +kernel)
set_option maxRecDepth 20000 in
theorem gL_law_X8_panorama : GoodIn wsL_law (wsV RL 72 RX8 yX8_panorama wsX8_panorama) := goodIn_app (goodIn_of _ (by decide +kernel)) ggL_law_X8_panorama
set_option maxRecDepth 20000 in
theorem ggL_law_X7_notch : GoodIn wsL_law wsX7_notch := goodIn_r _ [569, 24, 455, 456, 434, 435, 436, 23, 437, 410, 821, 822, 823, 824, 825, 826, 827, 828, 829, 891, 892, 893] (by decide +kernel) (by decide +kernel)
set_option maxRecDepth 20000 in
theorem gL_law_X7_notch : GoodIn wsL_law (wsV RL 73 RX7 yX7_notch wsX7_notch) := goodIn_app (goodIn_of _ (by decide +kernel)) ggL_law_X7_notch
set_option maxRecDepth 20000 in
theorem ggL_law_X8_notch : GoodIn wsL_law wsX8_notch := goodIn_r _ [573, 185, 106, 447, 448, 449, 5, 450, 187, 188, 189, 830, 831, 832, 833, 834, 835, 836, 837, 838, 839, 840, 841, 842, 843, 844, 845, 846, 847, 848, 849, 850, 851, 852, 853, 854, 855, 856, 857, 858, 859, 860, 861, 862, 863, 864, 865, 866, 867, 868, 869, 870, 871, 872, 873] (by decide +kernel) (by decide +kernel)
set_option maxRecDepth 20000 in
theorem gL_law_X8_notch : GoodIn wsL_law (wsV RL 76 RX8 yX8_notch wsX8_notch) := goodIn_app (goodIn_of _ (by decide +kernel)) ggL_law_X8_notch
set_option maxRecDepth 20000 in
theorem ggL_law_X7_fits : GoodIn wsL_law wsX7_fits := goodIn_r _ [577, 19, 24, 32, 466, 245, 246, 18, 247, 54, 248, 2, 249, 392, 393, 394, 434, 435, 436, 23, 437, 410, 365, 269, 270, 271, 217, 467, 578, 579, 580, 31, 581, 80, 582, 583, 81, 584, 585, 586, 301, 233, 302, 587, 588, 78, 589, 485, 486, 487, 300, 306, 307, 308, 309, 48, 310, 311, 312, 313, 49, 488, 489, 490, 491, 590, 496, 497, 498, 50, 296, 297, 298, 299, 303, 304, 305, 591, 592, 593, 594, 595, 493, 494, 596, 597, 598, 599, 600, 601, 602, 821, 822, 823, 824, 825, 826, 827, 828, 829, 880, 881, 882, 883, 884, 885, 886, 887, 888, 889, 890, 891, 892, 893, 897, 898, 899, 900, 901, 902, 903, 904, 905, 906] (by decide +kernel) (by decide +kernel)
set_option maxRecDepth 20000 in
theorem gL_law_X7_fits : GoodIn wsL_law (wsV RL 77 RX7 yX7_fits wsX7_fits) := goodIn_app (goodIn_of _ (by decide +kernel)) ggL_law_X7_fits
set_option maxRecDepth 20000 in
theorem ggL_law_X8_fits : GoodIn wsL_law wsX8_fits := goodIn_r _ [606, 185, 103, 503, 504, 505, 5, 506, 102, 187, 188, 189, 507, 508, 509, 447, 448, 449, 450, 106, 370, 371, 372, 373, 135, 607, 608, 609, 610, 104, 137, 105, 158, 159, 160, 830, 831, 832, 833, 834, 835, 836, 837, 838, 839, 840, 841, 842, 843, 844, 845, 846, 847, 848, 849, 850, 851, 852, 853, 854, 855, 856, 857, 858, 859, 860, 861, 862, 863, 864, 865, 866, 867, 868, 869, 870, 871, 872, 873] (by decide +kernel) (by decide +kernel)
set_option maxRecDepth 20000 in
theorem gL_law_X8_fits : GoodIn wsL_law (wsV RL 81 RX8 yX8_fits wsX8_fits) := goodIn_app (goodIn_of _ (by decide +kernel)) ggL_law_X8_fits
set_option maxRecDepth 20000 in
theorem ggL_law_X7_score : GoodIn wsL_law wsX7_score := goodIn_r _ [614, 19, 32, 466, 245, 246, 18, 247, 54, 248, 2, 249, 392, 393, 394, 467, 615, 616, 617, 618, 217, 619, 620, 621, 31, 622, 623, 579, 580, 581, 80, 582, 583, 81, 584, 585, 586, 301, 233, 302, 587, 588, 78, 589, 485, 486, 487, 300, 306, 307, 308, 309, 48, 310, 311, 312, 313, 49, 488, 489, 490, 491, 590, 496, 497, 498, 50, 296, 297, 298, 299, 303, 304, 305, 591, 592, 593, 594, 595, 493, 494, 600, 601, 602, 624, 625, 626, 627, 75, 628, 629, 630, 631, 632, 633, 597, 598, 599, 634, 635, 636, 74, 637, 86, 638, 85, 639, 640, 641, 642, 821, 822, 823, 824, 825, 826, 827, 828, 829, 880, 881, 882, 883, 884, 885, 886, 887, 888, 889, 890, 897, 898, 899, 900, 901, 902, 903, 904, 905, 906, 891, 892, 893, 911, 912, 913] (by decide +kernel) (by decide +kernel)
set_option maxRecDepth 20000 in
theorem gL_law_X7_score : GoodIn wsL_law (wsV RL 82 RX7 yX7_score wsX7_score) := goodIn_app (goodIn_of _ (by decide +kernel)) ggL_law_X7_score
set_option maxRecDepth 20000 in
theorem ggL_law_X8_score : GoodIn wsL_law wsX8_score := goodIn_r _ [646, 185, 503, 504, 505, 5, 506, 102, 187, 188, 189, 507, 508, 509, 647, 648, 649, 650, 106, 119, 135, 103, 120, 123, 607, 608, 609, 610, 104, 137, 105, 158, 159, 160, 651, 652, 653, 654, 121, 122, 655, 656, 657, 658, 830, 831, 832, 833, 834, 835, 836, 837, 838, 839, 840, 841, 842, 843, 844, 845, 846, 847, 848, 849, 850, 851, 852, 853, 854, 855, 856, 857, 858, 859, 860, 861, 862, 863, 864, 865, 866, 867, 868, 869, 870, 871, 872, 873] (by decide +kernel) (by decide +kernel)
set_option maxRecDepth 20000 in
theorem gL_law_X8_score : GoodIn wsL_law (wsV RL 85 RX8 yX8_score wsX8_score) := goodIn_app (goodIn_of _ (by decide +kernel)) ggL_law_X8_score
set_option maxRecDepth 20000 in
theorem ggL_law_X7_wholes : GoodIn wsL_law wsX7_wholes := goodIn_r _ [662, 32, 663, 664, 665, 666, 31, 667, 668, 669, 670, 671, 80, 672, 673, 616, 617, 18, 618, 217, 623, 579, 580, 581, 582, 583, 81, 584, 585, 586, 301, 233, 302, 587, 588, 78, 589, 485, 486, 487, 300, 306, 307, 308, 309, 48, 310, 311, 312, 313, 49, 488, 489, 490, 491, 590, 496, 497, 498, 50, 296, 297, 298, 299, 303, 304, 305, 591, 592, 593, 594, 595, 493, 494, 600, 601, 602, 624, 625, 626, 627, 75, 628, 629, 630, 631, 632, 633, 597, 598, 599, 634, 635, 636, 74, 637, 86, 638, 85, 639, 640, 641, 642, 674, 675, 676, 677, 76, 821, 822, 823, 824, 825, 826, 827, 828, 829, 897, 898, 899, 900, 901, 902, 903, 904, 905, 906, 880, 881, 882, 883, 884, 885, 886, 887, 888, 889, 890, 891, 892, 893, 911, 912, 913] (by decide +kernel) (by decide +kernel)
set_option maxRecDepth 20000 in
theorem gL_law_X7_wholes : GoodIn wsL_law (wsV RL 86 RX7 yX7_wholes wsX7_wholes) := goodIn_app (goodIn_of _ (by decide +kernel)) ggL_law_X7_wholes
set_option maxRecDepth 20000 in
theorem ggL_law_X8_wholes : GoodIn wsL_law wsX8_wholes := goodIn_r _ [681, 185, 682, 683, 684, 5, 685, 106, 102, 647, 648, 649, 650, 119, 135, 103, 120, 123, 607, 608, 609, 610, 104, 137, 105, 158, 159, 160, 651, 652, 653, 654, 121, 122, 655, 656, 657, 658, 830, 831, 832, 833, 834, 835, 836, 837, 838, 839, 840, 841, 842, 843, 844, 845, 846, 847, 848, 849, 850, 851, 852, 853, 854, 855, 856, 857, 858, 859, 860, 861, 862, 863, 864, 865, 866, 867, 868, 869, 870, 871, 872, 873] (by decide +kernel) (by decide +kernel)
set_option maxRecDepth 20000 in
theorem gL_law_X8_wholes : GoodIn wsL_law (wsV RL 89 RX8 yX8_wholes wsX8_wholes) := goodIn_app (goodIn_of _ (by decide +kernel)) ggL_law_X8_wholes
set_option maxRecDepth 20000 in
theorem ggL_law_X7_whole : GoodIn wsL_law wsX7_whole := goodIn_r _ [689, 32, 690, 691, 692, 31, 693, 669, 76, 81, 584, 694, 665, 666, 667, 668, 670, 671, 80, 672, 673, 616, 617, 18, 618, 217, 623, 579, 580, 581, 582, 583, 585, 586, 301, 233, 302, 587, 588, 78, 589, 485, 486, 487, 300, 306, 307, 308, 309, 48, 310, 311, 312, 313, 49, 488, 489, 490, 491, 590, 496, 497, 498, 50, 296, 297, 298, 299, 303, 304, 305, 591, 592, 593, 594, 595, 493, 494, 600, 601, 602, 624, 625, 626, 627, 75, 628, 629, 630, 631, 632, 633, 597, 598, 599, 634, 635, 636, 74, 637, 86, 638, 85, 639, 640, 641, 642, 674, 675, 676, 677, 695, 696, 2, 697, 821, 822, 823, 824, 825, 826, 827, 828, 829, 897, 898, 899, 900, 901, 902, 903, 904, 905, 906, 891, 892, 893, 880, 881, 882, 883, 884, 885, 886, 887, 888, 889, 890, 911, 912, 913] (by decide +kernel) (by decide +kernel)
set_option maxRecDepth 20000 in
theorem gL_law_X7_whole : GoodIn wsL_law (wsV RL 90 RX7 yX7_whole wsX7_whole) := goodIn_app (goodIn_of _ (by decide +kernel)) ggL_law_X7_whole
set_option maxRecDepth 20000 in
theorem ggL_law_X8_whole : GoodIn wsL_law wsX8_whole := goodIn_r _ [701, 185, 187, 188, 5, 189, 682, 683, 684, 685, 106, 102, 647, 648, 649, 650, 119, 135, 103, 120, 123, 607, 608, 609, 610, 104, 137, 105, 158, 159, 160, 651, 652, 653, 654, 121, 122, 655, 656, 657, 658, 702, 703, 704, 830, 831, 832, 833, 834, 835, 836, 837, 838, 839, 840, 841, 842, 843, 844, 845, 846, 847, 848, 849, 850, 851, 852, 853, 854, 855, 856, 857, 858, 859, 860, 861, 862, 863, 864, 865, 866, 867, 868, 869, 870, 871, 872, 873] (by decide +kernel) (by decide +kernel)
set_option maxRecDepth 20000 in
theorem gL_law_X8_whole : GoodIn wsL_law (wsV RL 93 RX8 yX8_whole wsX8_whole) := goodIn_app (goodIn_of _ (by decide +kernel)) ggL_law_X8_whole
set_option maxRecDepth 20000 in
theorem ggL_law_X7_best : GoodIn wsL_law wsX7_best := goodIn_r _ [708, 32, 709, 710, 664, 665, 666, 31, 667, 668, 669, 670, 671, 80, 672, 673, 616, 617, 18, 618, 217, 623, 579, 580, 581, 582, 583, 81, 584, 585, 586, 301, 233, 302, 587, 588, 78, 589, 485, 486, 487, 300, 306, 307, 308, 309, 48, 310, 311, 312, 313, 49, 488, 489, 490, 491, 590, 496, 497, 498, 50, 296, 297, 298, 299, 303, 304, 305, 591, 592, 593, 594, 595, 493, 494, 600, 601, 602, 624, 625, 626, 627, 75, 628, 629, 630, 631, 632, 633, 597, 598, 599, 634, 635, 636, 74, 637, 86, 638, 85, 639, 640, 641, 642, 674, 675, 676, 677, 76, 695, 696, 2, 697, 821, 822, 823, 824, 825, 826, 827, 828, 829, 897, 898, 899, 900, 901, 902, 903, 904, 905, 906, 880, 881, 882, 883, 884, 885, 886, 887, 888, 889, 890, 891, 892, 893, 911, 912, 913] (by decide +kernel) (by decide +kernel)
set_option maxRecDepth 20000 in
theorem gL_law_X7_best : GoodIn wsL_law (wsV RL 94 RX7 yX7_best wsX7_best) := goodIn_app (goodIn_of _ (by decide +kernel)) ggL_law_X7_best
set_option maxRecDepth 20000 in
theorem ggL_law_X8_best : GoodIn wsL_law wsX8_best := goodIn_r _ [714, 185, 715, 716, 187, 188, 5, 189, 717, 718, 719, 720, 721, 102, 647, 648, 649, 650, 106, 119, 135, 103, 120, 123, 607, 608, 609, 610, 104, 137, 105, 158, 159, 160, 651, 652, 653, 654, 121, 122, 655, 656, 657, 658, 702, 703, 704, 830, 831, 832, 833, 834, 835, 836, 837, 838, 839, 840, 841, 842, 843, 844, 845, 846, 847, 848, 849, 850, 851, 852, 853, 854, 855, 856, 857, 858, 859, 860, 861, 862, 863, 864, 865, 866, 867, 868, 869, 870, 871, 872, 873] (by decide +kernel) (by decide +kernel)
set_option maxRecDepth 20000 in
theorem gL_law_X8_best : GoodIn wsL_law (wsV RL 97 RX8 yX8_best wsX8_best) := goodIn_app (goodIn_of _ (by decide +kernel)) ggL_law_X8_best
set_option maxRecDepth 20000 in
theorem ggL_law_X7_doubt : GoodIn wsL_law wsX7_doubt := goodIn_r _ [725, 32, 726, 727, 728, 31, 729, 80, 672, 694, 665, 666, 667, 668, 669, 670, 671, 673, 616, 617, 18, 618, 217, 623, 579, 580, 581, 582, 583, 81, 584, 585, 586, 301, 233, 302, 587, 588, 78, 589, 485, 486, 487, 300, 306, 307, 308, 309, 48, 310, 311, 312, 313, 49, 488, 489, 490, 491, 590, 496, 497, 498, 50, 296, 297, 298, 299, 303, 304, 305, 591, 592, 593, 594, 595, 493, 494, 600, 601, 602, 624, 625, 626, 627, 75, 628, 629, 630, 631, 632, 633, 597, 598, 599, 634, 635, 636, 74, 637, 86, 638, 85, 639, 640, 641, 642, 674, 675, 676, 677, 76, 730, 731, 732, 733, 821, 822, 823, 824, 825, 826, 827, 828, 829, 897, 898, 899, 900, 901, 902, 903, 904, 905, 906, 880, 881, 882, 883, 884, 885, 886, 887, 888, 889, 890, 891, 892, 893, 911, 912, 913] (by decide +kernel) (by decide +kernel)
set_option maxRecDepth 20000 in
theorem gL_law_X7_doubt : GoodIn wsL_law (wsV RL 98 RX7 yX7_doubt wsX7_doubt) := goodIn_app (goodIn_of _ (by decide +kernel)) ggL_law_X7_doubt
set_option maxRecDepth 20000 in
theorem ggL_law_X8_doubt : GoodIn wsL_law wsX8_doubt := goodIn_r _ [737, 185, 721, 717, 718, 719, 5, 720, 715, 102, 716, 647, 648, 649, 650, 106, 119, 135, 103, 120, 123, 607, 608, 609, 610, 104, 137, 105, 158, 159, 160, 651, 652, 653, 654, 121, 122, 655, 656, 657, 658, 830, 831, 832, 833, 834, 835, 836, 837, 838, 839, 840, 841, 842, 843, 844, 845, 846, 847, 848, 849, 850, 851, 852, 853, 854, 855, 856, 857, 858, 859, 860, 861, 862, 863, 864, 865, 866, 867, 868, 869, 870, 871, 872, 873] (by decide +kernel) (by decide +kernel)
set_option maxRecDepth 20000 in
theorem gL_law_X8_doubt : GoodIn wsL_law (wsV RL 101 RX8 yX8_doubt wsX8_doubt) := goodIn_app (goodIn_of _ (by decide +kernel)) ggL_law_X8_doubt
set_option maxRecDepth 20000 in
theorem ggL_law_X7_odd : GoodIn wsL_law wsX7_odd := goodIn_r _ [741, 32, 742, 743, 744, 31, 745, 81, 584, 79, 694, 665, 666, 667, 668, 669, 670, 671, 80, 672, 673, 616, 617, 18, 618, 217, 623, 579, 580, 581, 582, 583, 585, 586, 301, 233, 302, 587, 588, 78, 589, 485, 486, 487, 300, 306, 307, 308, 309, 48, 310, 311, 312, 313, 49, 488, 489, 490, 491, 590, 496, 497, 498, 50, 296, 297, 298, 299, 303, 304, 305, 591, 592, 593, 594, 595, 493, 494, 600, 601, 602, 624, 625, 626, 627, 75, 628, 629, 630, 631, 632, 633, 597, 598, 599, 634, 635, 636, 74, 637, 86, 638, 85, 639, 640, 641, 642, 674, 675, 676, 677, 76, 746, 747, 748, 749, 750, 751, 752, 753, 821, 822, 823, 824, 825, 826, 827, 828, 829, 897, 898, 899, 900, 901, 902, 903, 904, 905, 906, 891, 892, 893, 880, 881, 882, 883, 884, 885, 886, 887, 888, 889, 890, 911, 912, 913] (by decide +kernel) (by decide +kernel)
set_option maxRecDepth 20000 in
theorem gL_law_X7_odd : GoodIn wsL_law (wsV RL 102 RX7 yX7_odd wsX7_odd) := goodIn_app (goodIn_of _ (by decide +kernel)) ggL_law_X7_odd
set_option maxRecDepth 20000 in
theorem ggL_law_X8_odd : GoodIn wsL_law wsX8_odd := goodIn_r _ [757, 185, 106, 682, 683, 684, 5, 685, 102, 647, 648, 649, 650, 119, 135, 103, 120, 123, 607, 608, 609, 610, 104, 137, 105, 158, 159, 160, 651, 652, 653, 654, 121, 122, 655, 656, 657, 658, 830, 831, 832, 833, 834, 835, 836, 837, 838, 839, 840, 841, 842, 843, 844, 845, 846, 847, 848, 849, 850, 851, 852, 853, 854, 855, 856, 857, 858, 859, 860, 861, 862, 863, 864, 865, 866, 867, 868, 869, 870, 871, 872, 873] (by decide +kernel) (by decide +kernel)
set_option maxRecDepth 20000 in
theorem gL_law_X8_odd : GoodIn wsL_law (wsV RL 105 RX8 yX8_odd wsX8_odd) := goodIn_app (goodIn_of _ (by decide +kernel)) ggL_law_X8_odd
set_option maxRecDepth 20000 in
theorem ggL_law_X7_clouds : GoodIn wsL_law wsX7_clouds := goodIn_r _ [761, 19, 36, 204, 466, 245, 246, 18, 247, 54, 248, 2, 249, 392, 393, 394, 467, 762, 763, 764, 35, 765, 766, 90, 91, 92, 821, 822, 823, 824, 825, 826, 827, 828, 829, 907, 908, 909, 910, 880, 881, 882, 883, 884, 885, 886, 887, 888, 889, 890] (by decide +kernel) (by decide +kernel)
set_option maxRecDepth 20000 in
theorem gL_law_X7_clouds : GoodIn wsL_law (wsV RL 106 RX7 yX7_clouds wsX7_clouds) := goodIn_app (goodIn_of _ (by decide +kernel)) ggL_law_X7_clouds
set_option maxRecDepth 20000 in
theorem ggL_law_X8_clouds : GoodIn wsL_law wsX8_clouds := goodIn_r _ [770, 185, 139, 110, 111, 112, 503, 504, 505, 5, 506, 102, 187, 188, 189, 507, 508, 509, 830, 831, 832, 833, 834, 835, 836, 837, 838, 839, 840, 841, 842, 843, 844, 845, 846, 847, 848, 849, 850, 851, 852, 853, 854, 855, 856, 857, 858, 859, 860, 861, 862, 863, 864, 865, 866, 867, 868, 869, 870, 871, 872, 873] (by decide +kernel) (by decide +kernel)
set_option maxRecDepth 20000 in
theorem gL_law_X8_clouds : GoodIn wsL_law (wsV RL 110 RX8 yX8_clouds wsX8_clouds) := goodIn_app (goodIn_of _ (by decide +kernel)) ggL_law_X8_clouds
set_option maxRecDepth 20000 in
theorem ggL_law_X7_forget : GoodIn wsL_law wsX7_forget := goodIn_r _ [774, 36, 204, 821, 822, 823, 824, 825, 826, 827, 828, 829, 907, 908, 909, 910] (by decide +kernel) (by decide +kernel)
set_option maxRecDepth 20000 in
theorem gL_law_X7_forget : GoodIn wsL_law (wsV RL 111 RX7 yX7_forget wsX7_forget) := goodIn_app (goodIn_of _ (by decide +kernel)) ggL_law_X7_forget
set_option maxRecDepth 20000 in
theorem ggL_law_X8_forget : GoodIn wsL_law wsX8_forget := goodIn_r _ [778, 185, 139, 830, 831, 832, 833, 834, 835, 836, 837, 838, 839, 840, 841, 842, 843, 844, 845, 846, 847, 848, 849, 850, 851, 852, 853, 854, 855, 856, 857, 858, 859, 860, 861, 862, 863, 864, 865, 866, 867, 868, 869, 870, 871, 872, 873] (by decide +kernel) (by decide +kernel)
set_option maxRecDepth 20000 in
theorem gL_law_X8_forget : GoodIn wsL_law (wsV RL 114 RX8 yX8_forget wsX8_forget) := goodIn_app (goodIn_of _ (by decide +kernel)) ggL_law_X8_forget
set_option maxRecDepth 20000 in
theorem ggL_law_X7_unseen : GoodIn wsL_law wsX7_unseen := goodIn_r _ [782, 19, 783, 784, 785, 786, 2, 787, 36, 204, 32, 788, 789, 24, 202, 790, 615, 616, 617, 18, 618, 217, 619, 620, 621, 31, 622, 623, 579, 580, 581, 80, 582, 583, 81, 584, 585, 586, 301, 233, 302, 587, 588, 78, 589, 485, 486, 487, 300, 306, 307, 308, 309, 48, 310, 311, 312, 313, 49, 488, 489, 490, 491, 590, 496, 497, 498, 50, 296, 297, 298, 299, 303, 304, 305, 591, 592, 593, 594, 595, 493, 494, 600, 601, 602, 624, 625, 626, 627, 75, 628, 629, 630, 631, 632, 633, 597, 598, 599, 634, 635, 636, 74, 637, 86, 638, 85, 639, 640, 641, 642, 821, 822, 823, 824, 825, 826, 827, 828, 829, 880, 881, 882, 883, 884, 885, 886, 887, 888, 889, 890, 907, 908, 909, 910, 891, 892, 893, 897, 898, 899, 900, 901, 902, 903, 904, 905, 906, 911, 912, 913] (by decide +kernel) (by decide +kernel)
set_option maxRecDepth 20000 in
theorem gL_law_X7_unseen : GoodIn wsL_law (wsV RL 115 RX7 yX7_unseen wsX7_unseen) := goodIn_app (goodIn_of _ (by decide +kernel)) ggL_law_X7_unseen
set_option maxRecDepth 20000 in
theorem ggL_law_X8_unseen : GoodIn wsL_law wsX8_unseen := goodIn_r _ [794, 185, 135, 139, 110, 111, 106, 112, 647, 648, 649, 5, 650, 119, 103, 120, 123, 607, 608, 609, 610, 104, 137, 105, 158, 159, 160, 651, 652, 653, 654, 121, 122, 655, 656, 657, 658, 830, 831, 832, 833, 834, 835, 836, 837, 838, 839, 840, 841, 842, 843, 844, 845, 846, 847, 848, 849, 850, 851, 852, 853, 854, 855, 856, 857, 858, 859, 860, 861, 862, 863, 864, 865, 866, 867, 868, 869, 870, 871, 872, 873] (by decide +kernel) (by decide +kernel)
set_option maxRecDepth 20000 in
theorem gL_law_X8_unseen : GoodIn wsL_law (wsV RL 118 RX8 yX8_unseen wsX8_unseen) := goodIn_app (goodIn_of _ (by decide +kernel)) ggL_law_X8_unseen
set_option maxRecDepth 20000 in
theorem ggL_law_X7_keep : GoodIn wsL_law wsX7_keep := goodIn_r _ [798, 37, 24, 39, 202, 799, 407, 408, 23, 409, 410, 60, 61, 821, 822, 823, 824, 825, 826, 827, 828, 829, 891, 892, 893] (by decide +kernel) (by decide +kernel)
set_option maxRecDepth 20000 in
theorem gL_law_X7_keep : GoodIn wsL_law (wsV RL 119 RX7 yX7_keep wsX7_keep) := goodIn_app (goodIn_of _ (by decide +kernel)) ggL_law_X7_keep
set_option maxRecDepth 20000 in
theorem ggL_law_X8_keep : GoodIn wsL_law wsX8_keep := goodIn_r _ [803, 185, 108, 106, 109, 187, 188, 5, 189, 830, 831, 832, 833, 834, 835, 836, 837, 838, 839, 840, 841, 842, 843, 844, 845, 846, 847, 848, 849, 850, 851, 852, 853, 854, 855, 856, 857, 858, 859, 860, 861, 862, 863, 864, 865, 866, 867, 868, 869, 870, 871, 872, 873] (by decide +kernel) (by decide +kernel)
set_option maxRecDepth 20000 in
theorem gL_law_X8_keep : GoodIn wsL_law (wsV RL 122 RX8 yX8_keep wsX8_keep) := goodIn_app (goodIn_of _ (by decide +kernel)) ggL_law_X8_keep
set_option maxRecDepth 20000 in
theorem ggL_law_X7_back : GoodIn wsL_law wsX7_back := goodIn_r _ [807, 39, 24, 37, 28, 203, 32, 205, 202, 799, 407, 408, 23, 409, 410, 60, 61, 821, 822, 823, 824, 825, 826, 827, 828, 829, 894, 895, 896, 897, 898, 899, 900, 901, 902, 903, 904, 905, 906, 891, 892, 893] (by decide +kernel) (by decide +kernel)
set_option maxRecDepth 20000 in
theorem gL_law_X7_back : GoodIn wsL_law (wsV RL 123 RX7 yX7_back wsX7_back) := goodIn_app (goodIn_of _ (by decide +kernel)) ggL_law_X7_back
set_option maxRecDepth 20000 in
theorem ggL_law_X8_back : GoodIn wsL_law wsX8_back := goodIn_r _ [811, 185, 109, 106, 108, 138, 187, 188, 5, 189, 830, 831, 832, 833, 834, 835, 836, 837, 838, 839, 840, 841, 842, 843, 844, 845, 846, 847, 848, 849, 850, 851, 852, 853, 854, 855, 856, 857, 858, 859, 860, 861, 862, 863, 864, 865, 866, 867, 868, 869, 870, 871, 872, 873] (by decide +kernel) (by decide +kernel)
set_option maxRecDepth 20000 in
theorem gL_law_X8_back : GoodIn wsL_law (wsV RL 126 RX8 yX8_back wsX8_back) := goodIn_app (goodIn_of _ (by decide +kernel)) ggL_law_X8_back
set_option maxRecDepth 20000 in
theorem ggL_law_X7_count : GoodIn wsL_law wsX7_count := goodIn_r _ [815, 19, 783, 378, 816, 24, 202, 36, 204, 15, 175, 28, 203, 821, 822, 823, 824, 825, 826, 827, 828, 829, 880, 881, 882, 883, 884, 885, 886, 887, 888, 889, 890, 891, 892, 893, 907, 908, 909, 910, 874, 875, 876, 877, 878, 879, 894, 895, 896] (by decide +kernel) (by decide +kernel)
set_option maxRecDepth 20000 in
theorem gL_law_X7_count : GoodIn wsL_law (wsV RL 127 RX7 yX7_count wsX7_count) := goodIn_app (goodIn_of _ (by decide +kernel)) ggL_law_X7_count
set_option maxRecDepth 20000 in
theorem ggL_law_X8_count : GoodIn wsL_law wsX8_count := goodIn_r _ [820, 185, 135, 136, 137, 106, 139, 186, 138, 830, 831, 832, 833, 834, 835, 836, 837, 838, 839, 840, 841, 842, 843, 844, 845, 846, 847, 848, 849, 850, 851, 852, 853, 854, 855, 856, 857, 858, 859, 860, 861, 862, 863, 864, 865, 866, 867, 868, 869, 870, 871, 872, 873] (by decide +kernel) (by decide +kernel)
set_option maxRecDepth 20000 in
theorem gL_law_X8_count : GoodIn wsL_law (wsV RL 130 RX8 yX8_count wsX8_count) := goodIn_app (goodIn_of _ (by decide +kernel)) ggL_law_X8_count
