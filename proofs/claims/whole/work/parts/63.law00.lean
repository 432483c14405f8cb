set_option maxRecDepth 20000 in
theorem ggL_law_X6_init : GoodIn wsL_law wsX6_init := goodIn_r _ [9, 10, 11, 12, 13, 14, 15, 16, 17, 18, 19, 20, 21, 22, 23, 24, 25, 26, 27, 28, 29, 30, 31, 32, 33, 34, 35, 36, 37, 38, 39, 40, 41, 42, 43, 44, 45, 46, 47, 48, 49, 50, 51, 52, 53, 54, 55, 56, 57, 58, 59, 60, 61, 62, 63, 64, 65, 66, 67, 68, 69, 70, 71, 72, 73, 74, 75, 76, 77, 78, 79, 80, 81, 82, 83, 84, 85, 86, 87, 88, 89, 90, 91, 92, 93, 94, 95, 96, 97, 98, 99, 100, 101, 102, 895, 896, 862, 863, 864, 865, 866, 867, 868, 897, 898, 899, 900, 901, 902, 903, 904, 905, 906, 907, 908, 909, 910, 911, 912, 913, 914, 915, 916, 917, 918, 919, 920, 921] (by decide +kernel) (by decide +kernel)
set_option maxRecDepth 20000 in
theorem gL_law_X6_init : GoodIn wsL_law (wsX6_init) := ggL_law_X6_init
set_option maxRecDepth 20000 in
theorem ggL_law_X7_init : GoodIn wsL_law wsX7_init := goodIn_r _ [105, 106, 11, 12, 107, 48, 108, 109, 110, 111, 112, 113, 114, 115, 116, 117, 118, 119, 120, 121, 122, 123, 124, 125, 126, 127, 869, 870, 871, 872, 873, 874, 875, 876, 877, 878, 879, 880, 881, 882, 883, 884, 885, 886, 887, 888, 889, 890, 891, 892, 893, 894] (by decide +kernel) (by decide +kernel)
set_option maxRecDepth 20000 in
theorem gL_law_X7_init : GoodIn wsL_law (wsX7_init) := ggL_law_X7_init
set_option maxRecDepth 20000 in
theorem ggL_law_L_build : GoodIn wsL_law wsL_build := goodIn_ca (goodIn_r _ [131, 132, 133, 134, 135, 2, 136, 137, 138, 33, 862, 863, 864, 865, 866, 867, 868] (by decide +kernel) (by decide +kernel)) (goodIn_sub (fun _ h => List.mem_append_left _ (List.mem_append_left _ (List.mem_append_right _ h))) (by decide +kernel))
set_option maxRecDepth 20000 in
theorem gL_law_L_build : GoodIn wsL_law (va_wsS RL 111 yL_build wsL_build) := goodIn_app (goodIn_of _ (by decide +kernel)) ggL_law_L_build
set_option maxRecDepth 20000 in
theorem ggL_law_X7_build : GoodIn wsL_law wsX7_build := goodIn_r _ [142, 107, 143, 869, 870, 871, 872, 873, 874, 875, 876, 877, 878, 879, 880, 881, 882, 883, 884, 885, 886, 887, 888, 889, 890, 891, 892, 893, 894] (by decide +kernel) (by decide +kernel)
set_option maxRecDepth 20000 in
theorem gL_law_X7_build : GoodIn wsL_law (wsV RL 116 RX7 yX7_build wsX7_build) := goodIn_app (goodIn_of _ (by decide +kernel)) ggL_law_X7_build
set_option maxRecDepth 20000 in
theorem ggL_law_X7_thrown : GoodIn wsL_law wsX7_thrown := goodIn_r _ [147, 143, 869, 870, 871, 872, 873, 874, 875, 876, 877, 878, 879, 880, 881, 882, 883, 884, 885, 886, 887, 888, 889, 890, 891, 892, 893, 894] (by decide +kernel) (by decide +kernel)
set_option maxRecDepth 20000 in
theorem gL_law_X7_thrown : GoodIn wsL_law (wsV RL 117 RX7 yX7_thrown wsX7_thrown) := goodIn_app (goodIn_of _ (by decide +kernel)) ggL_law_X7_thrown
set_option maxRecDepth 20000 in
theorem ggL_law_L_defect : GoodIn wsL_law wsL_defect := goodIn_ca (goodIn_ca (goodIn_r _ [150, 151, 132, 152, 153, 154, 2, 155, 137, 138, 20, 156, 157, 158, 159, 160, 161, 33, 162, 163, 164, 165, 166, 167, 168, 169, 170, 19, 171, 62, 172, 173, 174, 175, 59, 60, 61, 176, 51, 52, 41, 53, 49, 177, 178, 179, 180, 181, 182, 862, 863, 864, 865, 866, 867, 868, 897, 898, 899, 900, 921] (by decide +kernel) (by decide +kernel)) (goodIn_sub (fun _ h => List.mem_append_left _ (List.mem_append_left _ (List.mem_append_right _ h))) (by decide +kernel))) (goodIn_sub (fun _ h => List.mem_append_left _ (List.mem_append_right _ h)) (by decide +kernel))
set_option maxRecDepth 20000 in
theorem gL_law_L_defect : GoodIn wsL_law (va_wsS RL 120 yL_defect wsL_defect) := goodIn_app (goodIn_of _ (by decide +kernel)) ggL_law_L_defect
set_option maxRecDepth 20000 in
theorem ggL_law_X7_defect : GoodIn wsL_law wsX7_defect := goodIn_r _ [186, 187, 143, 109, 110, 112, 188, 189, 190, 5, 191, 107, 192, 193, 194, 195, 196, 197, 869, 870, 871, 872, 873, 874, 875, 876, 877, 878, 879, 880, 881, 882, 883, 884, 885, 886, 887, 888, 889, 890, 891, 892, 893, 894] (by decide +kernel) (by decide +kernel)
set_option maxRecDepth 20000 in
theorem gL_law_X7_defect : GoodIn wsL_law (wsV RL 123 RX7 yX7_defect wsX7_defect) := goodIn_app (goodIn_of _ (by decide +kernel)) ggL_law_X7_defect
set_option maxRecDepth 20000 in
theorem ggL_law_L_need : GoodIn wsL_law wsL_need := goodIn_ca (goodIn_ca (goodIn_ca (goodIn_r _ [200, 151, 201, 132, 202, 203, 204, 2, 205, 206, 207, 137, 138, 16, 162, 163, 164, 160, 161, 165, 166, 167, 208, 209, 210, 15, 211, 43, 212, 178, 179, 41, 180, 49, 213, 214, 215, 216, 217, 218, 42, 181, 182, 50, 51, 52, 53, 219, 220, 221, 222, 223, 224, 225, 226, 227, 228, 229, 230, 231, 232, 233, 862, 863, 864, 865, 866, 867, 868, 895, 896, 921] (by decide +kernel) (by decide +kernel)) (goodIn_sub (fun _ h => List.mem_append_right _ h) (by decide +kernel))) (goodIn_sub (fun _ h => List.mem_append_left _ (List.mem_append_left _ (List.mem_append_right _ h))) (by decide +kernel))) (goodIn_sub (fun _ h => List.mem_append_left _ (List.mem_append_right _ h)) (by decide +kernel))
set_option maxRecDepth 20000 in
theorem gL_law_L_need : GoodIn wsL_law (va_wsS RL 124 yL_need wsL_need) := goodIn_app (goodIn_of _ (by decide +kernel)) ggL_law_L_need
set_option maxRecDepth 20000 in
theorem ggL_law_X7_need : GoodIn wsL_law wsX7_need := goodIn_r _ [237, 143, 108, 195, 196, 5, 197, 192, 193, 194, 238, 239, 240, 241, 242, 243, 244, 245, 246, 247, 248, 869, 870, 871, 872, 873, 874, 875, 876, 877, 878, 879, 880, 881, 882, 883, 884, 885, 886, 887, 888, 889, 890, 891, 892, 893, 894] (by decide +kernel) (by decide +kernel)
set_option maxRecDepth 20000 in
theorem gL_law_X7_need : GoodIn wsL_law (wsV RL 126 RX7 yX7_need wsX7_need) := goodIn_app (goodIn_of _ (by decide +kernel)) ggL_law_X7_need
set_option maxRecDepth 20000 in
theorem ggL_law_L_turn : GoodIn wsL_law wsL_turn := goodIn_ca (goodIn_ca (goodIn_ca (goodIn_r _ [251, 151, 201, 132, 252, 253, 254, 2, 255, 206, 207, 137, 138, 24, 34, 256, 257, 258, 160, 161, 162, 163, 164, 165, 166, 167, 259, 260, 261, 262, 32, 263, 264, 265, 31, 266, 97, 267, 178, 179, 41, 180, 49, 268, 269, 270, 23, 271, 75, 272, 273, 274, 275, 74, 72, 276, 277, 278, 279, 280, 69, 70, 71, 73, 281, 51, 52, 53, 862, 863, 864, 865, 866, 867, 868, 915, 916, 917, 918, 919, 920, 921, 901, 902, 903, 904, 905, 906, 907] (by decide +kernel) (by decide +kernel)) (goodIn_sub (fun _ h => List.mem_append_right _ h) (by decide +kernel))) (goodIn_sub (fun _ h => List.mem_append_left _ (List.mem_append_left _ (List.mem_append_right _ h))) (by decide +kernel))) (goodIn_sub (fun _ h => List.mem_append_left _ (List.mem_append_right _ h)) (by decide +kernel))
set_option maxRecDepth 20000 in
theorem gL_law_L_turn : GoodIn wsL_law (va_wsS RL 127 yL_turn wsL_turn) := goodIn_app (goodIn_of _ (by decide +kernel)) ggL_law_L_turn
set_option maxRecDepth 20000 in
theorem ggL_law_X7_turn : GoodIn wsL_law wsX7_turn := goodIn_r _ [285, 143, 286, 287, 288, 5, 289, 192, 193, 194, 195, 196, 197, 290, 291, 292, 293, 120, 294, 295, 296, 297, 298, 116, 299, 300, 301, 302, 114, 115, 303, 304, 305, 306, 113, 117, 869, 870, 871, 872, 873, 874, 875, 876, 877, 878, 879, 880, 881, 882, 883, 884, 885, 886, 887, 888, 889, 890, 891, 892, 893, 894] (by decide +kernel) (by decide +kernel)
set_option maxRecDepth 20000 in
theorem gL_law_X7_turn : GoodIn wsL_law (wsV RL 130 RX7 yX7_turn wsX7_turn) := goodIn_app (goodIn_of _ (by decide +kernel)) ggL_law_X7_turn
set_option maxRecDepth 20000 in
theorem ggL_law_L_roll : GoodIn wsL_law wsL_roll := goodIn_ca (goodIn_ca (goodIn_r _ [309, 151, 132, 310, 311, 312, 2, 313, 137, 138, 24, 34, 256, 257, 258, 160, 161, 314, 315, 316, 156, 157, 158, 159, 33, 259, 260, 261, 262, 32, 263, 264, 265, 31, 266, 97, 267, 178, 179, 41, 180, 49, 268, 269, 270, 23, 271, 75, 317, 318, 319, 320, 321, 322, 323, 272, 273, 274, 275, 74, 72, 276, 324, 325, 326, 327, 28, 328, 329, 330, 331, 70, 332, 333, 334, 27, 335, 87, 336, 277, 278, 279, 280, 69, 71, 73, 281, 51, 52, 53, 862, 863, 864, 865, 866, 867, 868, 915, 916, 917, 918, 919, 920, 921, 901, 902, 903, 904, 905, 906, 907, 908, 909, 910, 911, 912, 913, 914] (by decide +kernel) (by decide +kernel)) (goodIn_sub (fun _ h => List.mem_append_left _ (List.mem_append_left _ (List.mem_append_right _ h))) (by decide +kernel))) (goodIn_sub (fun _ h => List.mem_append_left _ (List.mem_append_right _ h)) (by decide +kernel))
set_option maxRecDepth 20000 in
theorem gL_law_L_roll : GoodIn wsL_law (va_wsS RL 131 yL_roll wsL_roll) := goodIn_app (goodIn_of _ (by decide +kernel)) ggL_law_L_roll
set_option maxRecDepth 20000 in
theorem ggL_law_X7_roll : GoodIn wsL_law wsX7_roll := goodIn_r _ [340, 143, 286, 287, 288, 5, 289, 192, 193, 194, 341, 342, 343, 188, 189, 190, 191, 107, 290, 291, 292, 293, 120, 294, 295, 296, 297, 298, 116, 299, 300, 301, 302, 114, 115, 344, 345, 346, 347, 117, 348, 349, 350, 351, 352, 123, 125, 303, 304, 305, 306, 113, 869, 870, 871, 872, 873, 874, 875, 876, 877, 878, 879, 880, 881, 882, 883, 884, 885, 886, 887, 888, 889, 890, 891, 892, 893, 894] (by decide +kernel) (by decide +kernel)
set_option maxRecDepth 20000 in
theorem gL_law_X7_roll : GoodIn wsL_law (wsV RL 133 RX7 yX7_roll wsX7_roll) := goodIn_app (goodIn_of _ (by decide +kernel)) ggL_law_X7_roll
set_option maxRecDepth 20000 in
theorem ggL_law_L_revert : GoodIn wsL_law wsL_revert := goodIn_ca (goodIn_ca (goodIn_r _ [355, 151, 132, 356, 357, 358, 2, 359, 137, 138, 24, 34, 256, 257, 258, 160, 161, 360, 361, 362, 363, 268, 269, 270, 23, 271, 75, 259, 260, 261, 262, 32, 263, 264, 265, 31, 266, 97, 267, 178, 179, 41, 180, 49, 364, 365, 366, 367, 71, 276, 368, 369, 370, 371, 74, 372, 373, 374, 375, 73, 72, 277, 278, 279, 280, 69, 70, 281, 51, 52, 53, 862, 863, 864, 865, 866, 867, 868, 901, 902, 903, 904, 905, 906, 907, 915, 916, 917, 918, 919, 920, 921] (by decide +kernel) (by decide +kernel)) (goodIn_sub (fun _ h => List.mem_append_left _ (List.mem_append_left _ (List.mem_append_right _ h))) (by decide +kernel))) (goodIn_sub (fun _ h => List.mem_append_left _ (List.mem_append_right _ h)) (by decide +kernel))
set_option maxRecDepth 20000 in
theorem gL_law_L_revert : GoodIn wsL_law (va_wsS RL 134 yL_revert wsL_revert) := goodIn_app (goodIn_of _ (by decide +kernel)) ggL_law_L_revert
set_option maxRecDepth 20000 in
theorem ggL_law_X7_revert : GoodIn wsL_law wsX7_revert := goodIn_r _ [379, 143, 114, 115, 286, 287, 288, 5, 289, 192, 193, 194, 380, 381, 382, 383, 290, 291, 292, 293, 120, 294, 299, 300, 301, 302, 295, 296, 297, 298, 116, 303, 304, 305, 306, 113, 117, 869, 870, 871, 872, 873, 874, 875, 876, 877, 878, 879, 880, 881, 882, 883, 884, 885, 886, 887, 888, 889, 890, 891, 892, 893, 894] (by decide +kernel) (by decide +kernel)
set_option maxRecDepth 20000 in
theorem gL_law_X7_revert : GoodIn wsL_law (wsV RL 137 RX7 yX7_revert wsX7_revert) := goodIn_app (goodIn_of _ (by decide +kernel)) ggL_law_X7_revert
set_option maxRecDepth 20000 in
theorem ggL_law_L_takeOver : GoodIn wsL_law wsL_takeOver := goodIn_ca (goodIn_ca (goodIn_r _ [386, 151, 132, 387, 388, 389, 2, 390, 137, 138, 32, 256, 257, 258, 160, 161, 391, 392, 393, 394, 34, 395, 396, 397, 31, 398, 95, 267, 178, 179, 41, 180, 49, 399, 400, 401, 402, 102, 51, 52, 53, 862, 863, 864, 865, 866, 867, 868, 915, 916, 917, 918, 919, 920, 921] (by decide +kernel) (by decide +kernel)) (goodIn_sub (fun _ h => List.mem_append_left _ (List.mem_append_left _ (List.mem_append_right _ h))) (by decide +kernel))) (goodIn_sub (fun _ h => List.mem_append_left _ (List.mem_append_right _ h)) (by decide +kernel))
set_option maxRecDepth 20000 in
theorem gL_law_L_takeOver : GoodIn wsL_law (va_wsS RL 138 yL_takeOver wsL_takeOver) := goodIn_app (goodIn_of _ (by decide +kernel)) ggL_law_L_takeOver
set_option maxRecDepth 20000 in
theorem ggL_law_X7_takeOver : GoodIn wsL_law wsX7_takeOver := goodIn_r _ [406, 294, 118, 143, 287, 288, 5, 289, 192, 193, 194, 242, 243, 244, 245, 869, 870, 871, 872, 873, 874, 875, 876, 877, 878, 879, 880, 881, 882, 883, 884, 885, 886, 887, 888, 889, 890, 891, 892, 893, 894] (by decide +kernel) (by decide +kernel)
set_option maxRecDepth 20000 in
theorem gL_law_X7_takeOver : GoodIn wsL_law (wsV RL 141 RX7 yX7_takeOver wsX7_takeOver) := goodIn_app (goodIn_of _ (by decide +kernel)) ggL_law_X7_takeOver
set_option maxRecDepth 20000 in
theorem ggL_law_L_pass : GoodIn wsL_law wsL_pass := goodIn_ca (goodIn_ca (goodIn_r _ [409, 201, 132, 410, 411, 412, 2, 413, 206, 207, 137, 138, 34, 28, 414, 415, 416, 27, 417, 88, 418, 419, 420, 421, 32, 391, 392, 393, 394, 422, 423, 424, 31, 425, 96, 95, 267, 178, 179, 41, 180, 49, 102, 51, 52, 53, 426, 427, 428, 429, 430, 431, 432, 433, 434, 435, 436, 437, 24, 438, 439, 440, 441, 20, 16, 317, 318, 319, 320, 321, 322, 323, 272, 273, 274, 23, 275, 74, 72, 276, 442, 443, 444, 445, 446, 181, 182, 447, 448, 449, 15, 450, 43, 212, 451, 452, 453, 19, 454, 59, 60, 61, 177, 455, 456, 457, 458, 87, 84, 336, 459, 460, 461, 462, 463, 464, 465, 466, 467, 368, 369, 370, 371, 165, 166, 167, 468, 469, 470, 471, 364, 365, 366, 367, 71, 372, 373, 374, 375, 73, 472, 473, 474, 475, 82, 83, 85, 476, 477, 478, 479, 69, 480, 481, 482, 483, 484, 485, 486, 487, 332, 333, 334, 335, 488, 489, 490, 491, 100, 98, 99, 97, 492, 493, 494, 495, 496, 264, 265, 266, 497, 498, 499, 500, 86, 862, 863, 864, 865, 866, 867, 868, 908, 909, 910, 911, 912, 913, 914, 915, 916, 917, 918, 919, 920, 921, 901, 902, 903, 904, 905, 906, 907, 895, 896, 897, 898, 899, 900] (by decide +kernel) (by decide +kernel)) (goodIn_sub (fun _ h => List.mem_append_right _ h) (by decide +kernel))) (goodIn_sub (fun _ h => List.mem_append_left _ (List.mem_append_left _ (List.mem_append_right _ h))) (by decide +kernel))
set_option maxRecDepth 20000 in
theorem gL_law_L_pass : GoodIn wsL_law (va_wsS RL 142 yL_pass wsL_pass) := goodIn_app (goodIn_of _ (by decide +kernel)) ggL_law_L_pass
set_option maxRecDepth 20000 in
theorem ggL_law_X7_pass : GoodIn wsL_law wsX7_pass := goodIn_r _ [504, 294, 143, 352, 192, 193, 5, 194, 505, 506, 507, 508, 125, 509, 510, 511, 512, 119, 118, 513, 514, 515, 516, 348, 349, 350, 351, 123, 517, 518, 519, 520, 187, 110, 112, 109, 295, 296, 297, 298, 116, 299, 300, 301, 302, 286, 114, 115, 521, 522, 523, 524, 108, 525, 526, 527, 528, 124, 126, 127, 113, 529, 530, 531, 532, 533, 534, 535, 536, 537, 121, 122, 120, 538, 539, 540, 541, 290, 291, 292, 293, 869, 870, 871, 872, 873, 874, 875, 876, 877, 878, 879, 880, 881, 882, 883, 884, 885, 886, 887, 888, 889, 890, 891, 892, 893, 894] (by decide +kernel) (by decide +kernel)
set_option maxRecDepth 20000 in
theorem gL_law_X7_pass : GoodIn wsL_law (wsV RL 144 RX7 yX7_pass wsX7_pass) := goodIn_app (goodIn_of _ (by decide +kernel)) ggL_law_X7_pass
set_option maxRecDepth 20000 in
theorem ggL_law_X6_time : GoodIn wsL_law wsX6_time := goodIn_r _ [545, 34, 862, 863, 864, 865, 866, 867, 868] (by decide +kernel) (by decide +kernel)
set_option maxRecDepth 20000 in
theorem gL_law_X6_time : GoodIn wsL_law (wsV RL 145 RX6 yX6_time wsX6_time) := goodIn_app (goodIn_of _ (by decide +kernel)) ggL_law_X6_time
set_option maxRecDepth 20000 in
theorem ggL_law_X7_time : GoodIn wsL_law wsX7_time := goodIn_r _ [549, 143, 294, 869, 870, 871, 872, 873, 874, 875, 876, 877, 878, 879, 880, 881, 882, 883, 884, 885, 886, 887, 888, 889, 890, 891, 892, 893, 894] (by decide +kernel) (by decide +kernel)
set_option maxRecDepth 20000 in
theorem gL_law_X7_time : GoodIn wsL_law (wsV RL 148 RX7 yX7_time wsX7_time) := goodIn_app (goodIn_of _ (by decide +kernel)) ggL_law_X7_time
set_option maxRecDepth 20000 in
theorem ggL_law_L_holder : GoodIn wsL_law wsL_holder := goodIn_ca (goodIn_r _ [552, 151, 553, 554, 555, 2, 556, 160, 161, 32, 391, 392, 393, 394, 34, 395, 396, 397, 31, 398, 95, 267, 178, 179, 41, 180, 49, 862, 863, 864, 865, 866, 867, 868, 915, 916, 917, 918, 919, 920, 921] (by decide +kernel) (by decide +kernel)) (goodIn_sub (fun _ h => List.mem_append_left _ (List.mem_append_right _ h)) (by decide +kernel))
set_option maxRecDepth 20000 in
theorem gL_law_L_holder : GoodIn wsL_law (va_wsS RL 149 yL_holder wsL_holder) := goodIn_app (goodIn_of _ (by decide +kernel)) ggL_law_L_holder
set_option maxRecDepth 20000 in
theorem ggL_law_X7_holder : GoodIn wsL_law wsX7_holder := goodIn_r _ [560, 143, 294, 118, 192, 193, 5, 194, 242, 243, 244, 245, 869, 870, 871, 872, 873, 874, 875, 876, 877, 878, 879, 880, 881, 882, 883, 884, 885, 886, 887, 888, 889, 890, 891, 892, 893, 894] (by decide +kernel) (by decide +kernel)
set_option maxRecDepth 20000 in
theorem gL_law_X7_holder : GoodIn wsL_law (wsV RL 151 RX7 yX7_holder wsX7_holder) := goodIn_app (goodIn_of _ (by decide +kernel)) ggL_law_X7_holder
set_option maxRecDepth 20000 in
theorem ggL_law_L_near : GoodIn wsL_law wsL_near := goodIn_ca (goodIn_r _ [563, 151, 564, 565, 566, 2, 567, 32, 256, 257, 258, 160, 161, 391, 392, 393, 394, 34, 568, 431, 432, 31, 433, 95, 96, 267, 178, 179, 41, 180, 49, 862, 863, 864, 865, 866, 867, 868, 915, 916, 917, 918, 919, 920, 921] (by decide +kernel) (by decide +kernel)) (goodIn_sub (fun _ h => List.mem_append_left _ (List.mem_append_right _ h)) (by decide +kernel))
set_option maxRecDepth 20000 in
theorem gL_law_L_near : GoodIn wsL_law (va_wsS RL 152 yL_near wsL_near) := goodIn_app (goodIn_of _ (by decide +kernel)) ggL_law_L_near
set_option maxRecDepth 20000 in
theorem ggL_law_X7_near : GoodIn wsL_law wsX7_near := goodIn_r _ [572, 143, 294, 287, 288, 5, 289, 192, 193, 194, 513, 514, 515, 516, 118, 119, 242, 243, 244, 245, 869, 870, 871, 872, 873, 874, 875, 876, 877, 878, 879, 880, 881, 882, 883, 884, 885, 886, 887, 888, 889, 890, 891, 892, 893, 894] (by decide +kernel) (by decide +kernel)
set_option maxRecDepth 20000 in
theorem gL_law_X7_near : GoodIn wsL_law (wsV RL 154 RX7 yX7_near wsX7_near) := goodIn_app (goodIn_of _ (by decide +kernel)) ggL_law_X7_near
set_option maxRecDepth 20000 in
theorem ggL_law_L_blots : GoodIn wsL_law wsL_blots := goodIn_ca (goodIn_r _ [575, 151, 576, 577, 578, 2, 579, 32, 256, 257, 258, 160, 161, 580, 581, 582, 31, 583, 96, 267, 178, 179, 41, 180, 49, 862, 863, 864, 865, 866, 867, 868, 915, 916, 917, 918, 919, 920, 921] (by decide +kernel) (by decide +kernel)) (goodIn_sub (fun _ h => List.mem_append_left _ (List.mem_append_right _ h)) (by decide +kernel))
set_option maxRecDepth 20000 in
theorem gL_law_L_blots : GoodIn wsL_law (va_wsS RL 155 yL_blots wsL_blots) := goodIn_app (goodIn_of _ (by decide +kernel)) ggL_law_L_blots
set_option maxRecDepth 20000 in
theorem ggL_law_X7_blots : GoodIn wsL_law wsX7_blots := goodIn_r _ [587, 143, 119, 287, 288, 5, 289, 192, 193, 194, 242, 243, 244, 245, 869, 870, 871, 872, 873, 874, 875, 876, 877, 878, 879, 880, 881, 882, 883, 884, 885, 886, 887, 888, 889, 890, 891, 892, 893, 894] (by decide +kernel) (by decide +kernel)
set_option maxRecDepth 20000 in
theorem gL_law_X7_blots : GoodIn wsL_law (wsV RL 157 RX7 yX7_blots wsX7_blots) := goodIn_app (goodIn_of _ (by decide +kernel)) ggL_law_X7_blots
set_option maxRecDepth 20000 in
theorem ggL_law_L_rests : GoodIn wsL_law wsL_rests := goodIn_ca (goodIn_r _ [590, 151, 591, 592, 593, 2, 594, 32, 34, 256, 257, 258, 160, 161, 263, 264, 265, 31, 266, 97, 267, 178, 179, 41, 180, 49, 862, 863, 864, 865, 866, 867, 868, 915, 916, 917, 918, 919, 920, 921] (by decide +kernel) (by decide +kernel)) (goodIn_sub (fun _ h => List.mem_append_left _ (List.mem_append_right _ h)) (by decide +kernel))
set_option maxRecDepth 20000 in
theorem gL_law_L_rests : GoodIn wsL_law (va_wsS RL 158 yL_rests wsL_rests) := goodIn_app (goodIn_of _ (by decide +kernel)) ggL_law_L_rests
set_option maxRecDepth 20000 in
theorem ggL_law_X7_rests : GoodIn wsL_law wsX7_rests := goodIn_r _ [598, 143, 287, 288, 5, 289, 192, 193, 194, 290, 291, 292, 293, 120, 294, 869, 870, 871, 872, 873, 874, 875, 876, 877, 878, 879, 880, 881, 882, 883, 884, 885, 886, 887, 888, 889, 890, 891, 892, 893, 894] (by decide +kernel) (by decide +kernel)
set_option maxRecDepth 20000 in
theorem gL_law_X7_rests : GoodIn wsL_law (wsV RL 160 RX7 yX7_rests wsX7_rests) := goodIn_app (goodIn_of _ (by decide +kernel)) ggL_law_X7_rests
set_option maxRecDepth 20000 in
theorem ggL_law_X6_onCall : GoodIn wsL_law wsX6_onCall := goodIn_r _ [602, 32, 34, 603, 493, 494, 31, 495, 95, 96, 267, 178, 179, 41, 180, 49, 496, 264, 265, 266, 97, 862, 863, 864, 865, 866, 867, 868, 915, 916, 917, 918, 919, 920, 921] (by decide +kernel) (by decide +kernel)
set_option maxRecDepth 20000 in
theorem gL_law_X6_onCall : GoodIn wsL_law (wsV RL 161 RX6 yX6_onCall wsX6_onCall) := goodIn_app (goodIn_of _ (by decide +kernel)) ggL_law_X6_onCall
set_option maxRecDepth 20000 in
theorem ggL_law_X7_onCall : GoodIn wsL_law wsX7_onCall := goodIn_r _ [607, 143, 538, 539, 540, 5, 541, 118, 294, 119, 290, 291, 292, 293, 120, 869, 870, 871, 872, 873, 874, 875, 876, 877, 878, 879, 880, 881, 882, 883, 884, 885, 886, 887, 888, 889, 890, 891, 892, 893, 894] (by decide +kernel) (by decide +kernel)
set_option maxRecDepth 20000 in
theorem gL_law_X7_onCall : GoodIn wsL_law (wsV RL 164 RX7 yX7_onCall wsX7_onCall) := goodIn_app (goodIn_of _ (by decide +kernel)) ggL_law_X7_onCall
set_option maxRecDepth 20000 in
theorem ggL_law_L_calls : GoodIn wsL_law wsL_calls := goodIn_ca (goodIn_r _ [610, 151, 611, 612, 613, 2, 614, 32, 256, 257, 258, 160, 161, 615, 616, 617, 31, 618, 99, 98, 267, 178, 179, 41, 180, 49, 862, 863, 864, 865, 866, 867, 868, 915, 916, 917, 918, 919, 920, 921] (by decide +kernel) (by decide +kernel)) (goodIn_sub (fun _ h => List.mem_append_left _ (List.mem_append_right _ h)) (by decide +kernel))
set_option maxRecDepth 20000 in
theorem gL_law_L_calls : GoodIn wsL_law (va_wsS RL 165 yL_calls wsL_calls) := goodIn_app (goodIn_of _ (by decide +kernel)) ggL_law_L_calls
set_option maxRecDepth 20000 in
theorem ggL_law_X7_calls : GoodIn wsL_law wsX7_calls := goodIn_r _ [622, 143, 122, 121, 287, 288, 5, 289, 192, 193, 194, 242, 243, 244, 245, 869, 870, 871, 872, 873, 874, 875, 876, 877, 878, 879, 880, 881, 882, 883, 884, 885, 886, 887, 888, 889, 890, 891, 892, 893, 894] (by decide +kernel) (by decide +kernel)
set_option maxRecDepth 20000 in
theorem gL_law_X7_calls : GoodIn wsL_law (wsV RL 168 RX7 yX7_calls wsX7_calls) := goodIn_app (goodIn_of _ (by decide +kernel)) ggL_law_X7_calls
set_option maxRecDepth 20000 in
theorem ggL_law_X6_missed : GoodIn wsL_law wsX6_missed := goodIn_r _ [626, 32, 627, 628, 629, 31, 630, 100, 862, 863, 864, 865, 866, 867, 868, 915, 916, 917, 918, 919, 920] (by decide +kernel) (by decide +kernel)
set_option maxRecDepth 20000 in
theorem gL_law_X6_missed : GoodIn wsL_law (wsV RL 169 RX6 yX6_missed wsX6_missed) := goodIn_app (goodIn_of _ (by decide +kernel)) ggL_law_X6_missed
set_option maxRecDepth 20000 in
theorem ggL_law_X7_missed : GoodIn wsL_law wsX7_missed := goodIn_r _ [634, 143, 537, 869, 870, 871, 872, 873, 874, 875, 876, 877, 878, 879, 880, 881, 882, 883, 884, 885, 886, 887, 888, 889, 890, 891, 892, 893, 894] (by decide +kernel) (by decide +kernel)
set_option maxRecDepth 20000 in
theorem gL_law_X7_missed : GoodIn wsL_law (wsV RL 172 RX7 yX7_missed wsX7_missed) := goodIn_app (goodIn_of _ (by decide +kernel)) ggL_law_X7_missed
set_option maxRecDepth 20000 in
theorem ggL_law_X6_versions : GoodIn wsL_law wsX6_versions := goodIn_r _ [638, 33, 862, 863, 864, 865, 866, 867, 868] (by decide +kernel) (by decide +kernel)
set_option maxRecDepth 20000 in
theorem gL_law_X6_versions : GoodIn wsL_law (wsV RL 173 RX6 yX6_versions wsX6_versions) := goodIn_app (goodIn_of _ (by decide +kernel)) ggL_law_X6_versions
set_option maxRecDepth 20000 in
theorem ggL_law_X7_versions : GoodIn wsL_law wsX7_versions := goodIn_r _ [642, 143, 107, 869, 870, 871, 872, 873, 874, 875, 876, 877, 878, 879, 880, 881, 882, 883, 884, 885, 886, 887, 888, 889, 890, 891, 892, 893, 894] (by decide +kernel) (by decide +kernel)
set_option maxRecDepth 20000 in
theorem gL_law_X7_versions : GoodIn wsL_law (wsV RL 176 RX7 yX7_versions wsX7_versions) := goodIn_app (goodIn_of _ (by decide +kernel)) ggL_law_X7_versions
set_option maxRecDepth 20000 in
theorem ggL_law_L_version : GoodIn wsL_law wsL_version := goodIn_ca (goodIn_r _ [645, 151, 646, 647, 648, 2, 649, 314, 315, 316, 160, 161, 317, 318, 319, 320, 24, 321, 322, 323, 272, 273, 274, 23, 275, 74, 72, 276, 178, 179, 41, 180, 49, 862, 863, 864, 865, 866, 867, 868, 901, 902, 903, 904, 905, 906, 907, 921] (by decide +kernel) (by decide +kernel)) (goodIn_sub (fun _ h => List.mem_append_left _ (List.mem_append_right _ h)) (by decide +kernel))
set_option maxRecDepth 20000 in
theorem gL_law_L_version : GoodIn wsL_law (va_wsS RL 177 yL_version wsL_version) := goodIn_app (goodIn_of _ (by decide +kernel)) ggL_law_L_version
set_option maxRecDepth 20000 in
theorem ggL_law_X7_version : GoodIn wsL_law wsX7_version := goodIn_r _ [653, 143, 341, 342, 5, 343, 192, 193, 194, 295, 296, 297, 298, 116, 299, 300, 301, 302, 286, 114, 115, 242, 243, 244, 245, 869, 870, 871, 872, 873, 874, 875, 876, 877, 878, 879, 880, 881, 882, 883, 884, 885, 886, 887, 888, 889, 890, 891, 892, 893, 894] (by decide +kernel) (by decide +kernel)
set_option maxRecDepth 20000 in
theorem gL_law_X7_version : GoodIn wsL_law (wsV RL 179 RX7 yX7_version wsX7_version) := goodIn_app (goodIn_of _ (by decide +kernel)) ggL_law_X7_version
set_option maxRecDepth 20000 in
theorem ggL_law_L_level : GoodIn wsL_law wsL_level := goodIn_ca (goodIn_r _ [656, 151, 657, 658, 659, 2, 660, 24, 162, 163, 164, 160, 161, 165, 166, 167, 272, 273, 274, 23, 275, 74, 72, 276, 178, 179, 41, 180, 49, 862, 863, 864, 865, 866, 867, 868, 901, 902, 903, 904, 905, 906, 907, 921] (by decide +kernel) (by decide +kernel)) (goodIn_sub (fun _ h => List.mem_append_left _ (List.mem_append_right _ h)) (by decide +kernel))
set_option maxRecDepth 20000 in
theorem gL_law_L_level : GoodIn wsL_law (va_wsS RL 180 yL_level wsL_level) := goodIn_app (goodIn_of _ (by decide +kernel)) ggL_law_L_level
set_option maxRecDepth 20000 in
theorem ggL_law_X7_level : GoodIn wsL_law wsX7_level := goodIn_r _ [664, 143, 195, 196, 5, 197, 192, 193, 194, 295, 296, 297, 298, 116, 299, 300, 301, 302, 286, 114, 115, 242, 243, 244, 245, 869, 870, 871, 872, 873, 874, 875, 876, 877, 878, 879, 880, 881, 882, 883, 884, 885, 886, 887, 888, 889, 890, 891, 892, 893, 894] (by decide +kernel) (by decide +kernel)
set_option maxRecDepth 20000 in
theorem gL_law_X7_level : GoodIn wsL_law (wsV RL 182 RX7 yX7_level wsX7_level) := goodIn_app (goodIn_of _ (by decide +kernel)) ggL_law_X7_level
set_option maxRecDepth 20000 in
theorem ggL_law_L_isOn : GoodIn wsL_law wsL_isOn := goodIn_ca (goodIn_r _ [667, 151, 668, 669, 670, 2, 671, 16, 162, 163, 164, 160, 161, 165, 166, 167, 314, 315, 316, 442, 443, 444, 445, 24, 272, 273, 274, 23, 275, 74, 72, 276, 178, 179, 41, 180, 49, 446, 181, 182, 447, 448, 449, 15, 450, 43, 212, 672, 213, 214, 862, 863, 864, 865, 866, 867, 868, 901, 902, 903, 904, 905, 906, 907, 921, 895, 896] (by decide +kernel) (by decide +kernel)) (goodIn_sub (fun _ h => List.mem_append_left _ (List.mem_append_right _ h)) (by decide +kernel))
set_option maxRecDepth 20000 in
theorem gL_law_L_isOn : GoodIn wsL_law (va_wsS RL 183 yL_isOn wsL_isOn) := goodIn_app (goodIn_of _ (by decide +kernel)) ggL_law_L_isOn
set_option maxRecDepth 20000 in
theorem ggL_law_X7_isOn : GoodIn wsL_law wsX7_isOn := goodIn_r _ [676, 143, 195, 196, 5, 197, 192, 193, 194, 341, 342, 343, 521, 522, 523, 524, 108, 295, 296, 297, 298, 116, 299, 300, 301, 302, 286, 114, 115, 869, 870, 871, 872, 873, 874, 875, 876, 877, 878, 879, 880, 881, 882, 883, 884, 885, 886, 887, 888, 889, 890, 891, 892, 893, 894] (by decide +kernel) (by decide +kernel)
set_option maxRecDepth 20000 in
theorem gL_law_X7_isOn : GoodIn wsL_law (wsV RL 185 RX7 yX7_isOn wsX7_isOn) := goodIn_app (goodIn_of _ (by decide +kernel)) ggL_law_X7_isOn
set_option maxRecDepth 20000 in
theorem ggL_law_L_isFaulty : GoodIn wsL_law wsL_isFaulty := goodIn_ca (goodIn_r _ [679, 151, 680, 681, 682, 2, 683, 314, 315, 316, 160, 161, 438, 439, 440, 441, 20, 16, 317, 318, 319, 320, 24, 321, 322, 323, 272, 273, 274, 23, 275, 74, 72, 276, 178, 179, 41, 180, 49, 442, 443, 444, 445, 446, 181, 182, 447, 448, 449, 15, 450, 43, 212, 451, 452, 453, 19, 454, 59, 60, 61, 177, 862, 863, 864, 865, 866, 867, 868, 901, 902, 903, 904, 905, 906, 907, 921, 895, 896, 897, 898, 899, 900] (by decide +kernel) (by decide +kernel)) (goodIn_sub (fun _ h => List.mem_append_left _ (List.mem_append_right _ h)) (by decide +kernel))
set_option maxRecDepth 20000 in
theorem gL_law_L_isFaulty : GoodIn wsL_law (va_wsS RL 186 yL_isFaulty wsL_isFaulty) := goodIn_app (goodIn_of _ (by decide +kernel)) ggL_law_L_isFaulty
set_option maxRecDepth 20000 in
theorem ggL_law_X7_isFaulty : GoodIn wsL_law wsX7_isFaulty := goodIn_r _ [687, 143, 341, 342, 5, 343, 192, 193, 194, 517, 518, 519, 520, 187, 110, 112, 109, 295, 296, 297, 298, 116, 299, 300, 301, 302, 286, 114, 115, 521, 522, 523, 524, 108, 869, 870, 871, 872, 873, 874, 875, 876, 877, 878, 879, 880, 881, 882, 883, 884, 885, 886, 887, 888, 889, 890, 891, 892, 893, 894] (by decide +kernel) (by decide +kernel)
set_option maxRecDepth 20000 in
theorem gL_law_X7_isFaulty : GoodIn wsL_law (wsV RL 188 RX7 yX7_isFaulty wsX7_isFaulty) := goodIn_app (goodIn_of _ (by decide +kernel)) ggL_law_X7_isFaulty
set_option maxRecDepth 20000 in
theorem ggL_law_L_rollable : GoodIn wsL_law wsL_rollable := goodIn_ca (goodIn_r _ [690, 151, 691, 692, 693, 2, 694, 33, 314, 315, 316, 160, 161, 317, 318, 319, 320, 24, 321, 322, 323, 272, 273, 274, 23, 275, 74, 72, 276, 178, 179, 41, 180, 49, 324, 325, 326, 327, 34, 28, 328, 329, 330, 331, 70, 332, 333, 334, 27, 335, 87, 336, 862, 863, 864, 865, 866, 867, 868, 901, 902, 903, 904, 905, 906, 907, 921, 908, 909, 910, 911, 912, 913, 914] (by decide +kernel) (by decide +kernel)) (goodIn_sub (fun _ h => List.mem_append_left _ (List.mem_append_right _ h)) (by decide +kernel))
set_option maxRecDepth 20000 in
theorem gL_law_L_rollable : GoodIn wsL_law (va_wsS RL 189 yL_rollable wsL_rollable) := goodIn_app (goodIn_of _ (by decide +kernel)) ggL_law_L_rollable
set_option maxRecDepth 20000 in
theorem ggL_law_X7_rollable : GoodIn wsL_law wsX7_rollable := goodIn_r _ [698, 143, 107, 341, 342, 5, 343, 192, 193, 194, 295, 296, 297, 298, 116, 299, 300, 301, 302, 286, 114, 115, 344, 345, 346, 347, 117, 294, 348, 349, 350, 351, 352, 123, 125, 869, 870, 871, 872, 873, 874, 875, 876, 877, 878, 879, 880, 881, 882, 883, 884, 885, 886, 887, 888, 889, 890, 891, 892, 893, 894] (by decide +kernel) (by decide +kernel)
set_option maxRecDepth 20000 in
theorem gL_law_X7_rollable : GoodIn wsL_law (wsV RL 191 RX7 yX7_rollable wsX7_rollable) := goodIn_app (goodIn_of _ (by decide +kernel)) ggL_law_X7_rollable
set_option maxRecDepth 20000 in
theorem ggL_law_X6_changes : GoodIn wsL_law wsX6_changes := goodIn_r _ [702, 24, 268, 269, 270, 23, 271, 75, 862, 863, 864, 865, 866, 867, 868, 901, 902, 903, 904, 905, 906, 907] (by decide +kernel) (by decide +kernel)
set_option maxRecDepth 20000 in
theorem gL_law_X6_changes : GoodIn wsL_law (wsV RL 192 RX6 yX6_changes wsX6_changes) := goodIn_app (goodIn_of _ (by decide +kernel)) ggL_law_X6_changes
set_option maxRecDepth 20000 in
theorem ggL_law_X7_changes : GoodIn wsL_law wsX7_changes := goodIn_r _ [706, 143, 286, 869, 870, 871, 872, 873, 874, 875, 876, 877, 878, 879, 880, 881, 882, 883, 884, 885, 886, 887, 888, 889, 890, 891, 892, 893, 894] (by decide +kernel) (by decide +kernel)
set_option maxRecDepth 20000 in
theorem gL_law_X7_changes : GoodIn wsL_law (wsV RL 195 RX7 yX7_changes wsX7_changes) := goodIn_app (goodIn_of _ (by decide +kernel)) ggL_law_X7_changes
set_option maxRecDepth 20000 in
theorem ggL_law_L_change : GoodIn wsL_law wsL_change := goodIn_ca (goodIn_r _ [709, 151, 710, 711, 712, 2, 713, 24, 360, 361, 362, 363, 160, 161, 268, 269, 270, 23, 271, 75, 364, 365, 366, 367, 71, 276, 178, 179, 41, 180, 49, 476, 477, 478, 479, 69, 714, 715, 716, 717, 72, 165, 166, 167, 862, 863, 864, 865, 866, 867, 868, 901, 902, 903, 904, 905, 906, 907, 921] (by decide +kernel) (by decide +kernel)) (goodIn_sub (fun _ h => List.mem_append_left _ (List.mem_append_right _ h)) (by decide +kernel))
set_option maxRecDepth 20000 in
theorem gL_law_L_change : GoodIn wsL_law (va_wsS RL 196 yL_change wsL_change) := goodIn_app (goodIn_of _ (by decide +kernel)) ggL_law_L_change
set_option maxRecDepth 20000 in
theorem ggL_law_X7_change : GoodIn wsL_law wsX7_change := goodIn_r _ [721, 143, 113, 114, 115, 116, 380, 381, 382, 5, 383, 286, 192, 193, 194, 242, 243, 244, 245, 869, 870, 871, 872, 873, 874, 875, 876, 877, 878, 879, 880, 881, 882, 883, 884, 885, 886, 887, 888, 889, 890, 891, 892, 893, 894] (by decide +kernel) (by decide +kernel)
set_option maxRecDepth 20000 in
theorem gL_law_X7_change : GoodIn wsL_law (wsV RL 198 RX7 yX7_change wsX7_change) := goodIn_app (goodIn_of _ (by decide +kernel)) ggL_law_X7_change
set_option maxRecDepth 20000 in
theorem ggL_law_L_madeAt : GoodIn wsL_law wsL_madeAt := goodIn_ca (goodIn_r _ [724, 151, 725, 726, 727, 2, 728, 24, 360, 361, 362, 363, 160, 161, 268, 269, 270, 23, 271, 75, 729, 730, 731, 732, 70, 276, 178, 179, 41, 180, 49, 862, 863, 864, 865, 866, 867, 868, 901, 902, 903, 904, 905, 906, 907, 921] (by decide +kernel) (by decide +kernel)) (goodIn_sub (fun _ h => List.mem_append_left _ (List.mem_append_right _ h)) (by decide +kernel))
set_option maxRecDepth 20000 in
theorem gL_law_L_madeAt : GoodIn wsL_law (va_wsS RL 199 yL_madeAt wsL_madeAt) := goodIn_app (goodIn_of _ (by decide +kernel)) ggL_law_L_madeAt
set_option maxRecDepth 20000 in
theorem ggL_law_X7_madeAt : GoodIn wsL_law wsX7_madeAt := goodIn_r _ [736, 143, 117, 380, 381, 382, 5, 383, 286, 192, 193, 194, 242, 243, 244, 245, 869, 870, 871, 872, 873, 874, 875, 876, 877, 878, 879, 880, 881, 882, 883, 884, 885, 886, 887, 888, 889, 890, 891, 892, 893, 894] (by decide +kernel) (by decide +kernel)
set_option maxRecDepth 20000 in
theorem gL_law_X7_madeAt : GoodIn wsL_law (wsV RL 201 RX7 yX7_madeAt wsX7_madeAt) := goodIn_app (goodIn_of _ (by decide +kernel)) ggL_law_X7_madeAt
set_option maxRecDepth 20000 in
theorem ggL_law_L_heals : GoodIn wsL_law wsL_heals := goodIn_ca (goodIn_r _ [739, 151, 740, 741, 742, 2, 743, 360, 361, 362, 363, 160, 161, 24, 268, 269, 270, 23, 271, 75, 314, 315, 316, 438, 439, 440, 441, 20, 16, 317, 318, 319, 320, 321, 322, 323, 272, 273, 274, 275, 74, 72, 276, 178, 179, 41, 180, 49, 442, 443, 444, 445, 446, 181, 182, 447, 448, 449, 15, 450, 43, 212, 451, 452, 453, 19, 454, 59, 60, 61, 177, 468, 469, 470, 471, 364, 365, 366, 367, 71, 372, 373, 374, 375, 73, 165, 166, 167, 862, 863, 864, 865, 866, 867, 868, 901, 902, 903, 904, 905, 906, 907, 921, 895, 896, 897, 898, 899, 900] (by decide +kernel) (by decide +kernel)) (goodIn_sub (fun _ h => List.mem_append_left _ (List.mem_append_right _ h)) (by decide +kernel))
set_option maxRecDepth 20000 in
theorem gL_law_L_heals : GoodIn wsL_law (va_wsS RL 202 yL_heals wsL_heals) := goodIn_app (goodIn_of _ (by decide +kernel)) ggL_law_L_heals
set_option maxRecDepth 20000 in
theorem ggL_law_X7_heals : GoodIn wsL_law wsX7_heals := goodIn_r _ [747, 143, 380, 381, 382, 5, 383, 286, 192, 193, 194, 341, 342, 343, 517, 518, 519, 520, 187, 110, 112, 109, 295, 296, 297, 298, 116, 299, 300, 301, 302, 114, 115, 521, 522, 523, 524, 108, 869, 870, 871, 872, 873, 874, 875, 876, 877, 878, 879, 880, 881, 882, 883, 884, 885, 886, 887, 888, 889, 890, 891, 892, 893, 894] (by decide +kernel) (by decide +kernel)
set_option maxRecDepth 20000 in
theorem gL_law_X7_heals : GoodIn wsL_law (wsV RL 204 RX7 yX7_heals wsX7_heals) := goodIn_app (goodIn_of _ (by decide +kernel)) ggL_law_X7_heals
set_option maxRecDepth 20000 in
theorem ggL_law_L_trace : GoodIn wsL_law wsL_trace := goodIn_ca (goodIn_r _ [750, 151, 751, 752, 753, 2, 754, 314, 315, 316, 160, 161, 464, 465, 466, 467, 24, 438, 439, 440, 441, 20, 16, 317, 318, 319, 320, 321, 322, 323, 272, 273, 274, 23, 275, 74, 72, 276, 178, 179, 41, 180, 49, 442, 443, 444, 445, 446, 181, 182, 447, 448, 449, 15, 450, 43, 212, 451, 452, 453, 19, 454, 59, 60, 61, 177, 368, 369, 370, 371, 165, 166, 167, 468, 469, 470, 471, 364, 365, 366, 367, 71, 372, 373, 374, 375, 73, 862, 863, 864, 865, 866, 867, 868, 901, 902, 903, 904, 905, 906, 907, 921, 895, 896, 897, 898, 899, 900] (by decide +kernel) (by decide +kernel)) (goodIn_sub (fun _ h => List.mem_append_left _ (List.mem_append_right _ h)) (by decide +kernel))
set_option maxRecDepth 20000 in
theorem gL_law_L_trace : GoodIn wsL_law (va_wsS RL 205 yL_trace wsL_trace) := goodIn_app (goodIn_of _ (by decide +kernel)) ggL_law_L_trace
set_option maxRecDepth 20000 in
theorem ggL_law_X7_trace : GoodIn wsL_law wsX7_trace := goodIn_r _ [758, 143, 341, 342, 5, 343, 192, 193, 194, 529, 530, 531, 532, 286, 517, 518, 519, 520, 187, 110, 112, 109, 295, 296, 297, 298, 116, 299, 300, 301, 302, 114, 115, 521, 522, 523, 524, 108, 242, 243, 244, 245, 869, 870, 871, 872, 873, 874, 875, 876, 877, 878, 879, 880, 881, 882, 883, 884, 885, 886, 887, 888, 889, 890, 891, 892, 893, 894] (by decide +kernel) (by decide +kernel)
set_option maxRecDepth 20000 in
theorem gL_law_X7_trace : GoodIn wsL_law (wsV RL 207 RX7 yX7_trace wsX7_trace) := goodIn_app (goodIn_of _ (by decide +kernel)) ggL_law_X7_trace
set_option maxRecDepth 20000 in
theorem ggL_law_L_traceByTrying : GoodIn wsL_law wsL_traceByTrying := goodIn_ca (goodIn_r _ [761, 151, 762, 763, 764, 2, 765, 24, 314, 315, 316, 160, 161, 438, 439, 440, 441, 20, 16, 317, 318, 319, 320, 321, 322, 323, 272, 273, 274, 23, 275, 74, 72, 276, 178, 179, 41, 180, 49, 442, 443, 444, 445, 446, 181, 182, 447, 448, 449, 15, 450, 43, 212, 451, 452, 453, 19, 454, 59, 60, 61, 177, 268, 269, 270, 271, 75, 468, 469, 470, 471, 364, 365, 366, 367, 71, 372, 373, 374, 375, 73, 165, 166, 167, 862, 863, 864, 865, 866, 867, 868, 901, 902, 903, 904, 905, 906, 907, 921, 895, 896, 897, 898, 899, 900] (by decide +kernel) (by decide +kernel)) (goodIn_sub (fun _ h => List.mem_append_left _ (List.mem_append_right _ h)) (by decide +kernel))
set_option maxRecDepth 20000 in
theorem gL_law_L_traceByTrying : GoodIn wsL_law (va_wsS RL 208 yL_traceByTrying wsL_traceByTrying) := goodIn_app (goodIn_of _ (by decide +kernel)) ggL_law_L_traceByTrying
set_option maxRecDepth 20000 in
theorem ggL_law_X7_traceByTrying : GoodIn wsL_law wsX7_traceByTrying := goodIn_r _ [769, 770, 756, 757, 5, 758, 143, 341, 342, 343, 192, 193, 194, 529, 530, 531, 532, 286, 517, 518, 519, 520, 187, 110, 112, 109, 295, 296, 297, 298, 116, 299, 300, 301, 302, 114, 115, 521, 522, 523, 524, 108, 242, 243, 244, 245, 869, 870, 871, 872, 873, 874, 875, 876, 877, 878, 879, 880, 881, 882, 883, 884, 885, 886, 887, 888, 889, 890, 891, 892, 893, 894] (by decide +kernel) (by decide +kernel)
set_option maxRecDepth 20000 in
theorem gL_law_X7_traceByTrying : GoodIn wsL_law (wsV RL 210 RX7 yX7_traceByTrying wsX7_traceByTrying) := goodIn_app (goodIn_of _ (by decide +kernel)) ggL_law_X7_traceByTrying
set_option maxRecDepth 20000 in
theorem ggL_law_X6_incidents : GoodIn wsL_law wsX6_incidents := goodIn_r _ [774, 28, 414, 415, 416, 27, 417, 88, 862, 863, 864, 865, 866, 867, 868, 908, 909, 910, 911, 912, 913, 914] (by decide +kernel) (by decide +kernel)
set_option maxRecDepth 20000 in
theorem gL_law_X6_incidents : GoodIn wsL_law (wsV RL 211 RX6 yX6_incidents wsX6_incidents) := goodIn_app (goodIn_of _ (by decide +kernel)) ggL_law_X6_incidents
set_option maxRecDepth 20000 in
theorem ggL_law_X7_incidents : GoodIn wsL_law wsX7_incidents := goodIn_r _ [778, 143, 352, 869, 870, 871, 872, 873, 874, 875, 876, 877, 878, 879, 880, 881, 882, 883, 884, 885, 886, 887, 888, 889, 890, 891, 892, 893, 894] (by decide +kernel) (by decide +kernel)
set_option maxRecDepth 20000 in
theorem gL_law_X7_incidents : GoodIn wsL_law (wsV RL 214 RX7 yX7_incidents wsX7_incidents) := goodIn_app (goodIn_of _ (by decide +kernel)) ggL_law_X7_incidents
set_option maxRecDepth 20000 in
theorem ggL_law_L_openIn : GoodIn wsL_law wsL_openIn := goodIn_ca (goodIn_r _ [781, 151, 782, 783, 784, 2, 785, 28, 314, 315, 316, 160, 161, 460, 461, 462, 27, 463, 87, 336, 178, 179, 41, 180, 49, 862, 863, 864, 865, 866, 867, 868, 908, 909, 910, 911, 912, 913, 914, 921] (by decide +kernel) (by decide +kernel)) (goodIn_sub (fun _ h => List.mem_append_left _ (List.mem_append_right _ h)) (by decide +kernel))
set_option maxRecDepth 20000 in
theorem gL_law_L_openIn : GoodIn wsL_law (va_wsS RL 215 yL_openIn wsL_openIn) := goodIn_app (goodIn_of _ (by decide +kernel)) ggL_law_L_openIn
set_option maxRecDepth 20000 in
theorem ggL_law_X7_openIn : GoodIn wsL_law wsX7_openIn := goodIn_r _ [789, 143, 341, 342, 5, 343, 192, 193, 194, 348, 349, 350, 351, 352, 123, 125, 242, 243, 244, 245, 869, 870, 871, 872, 873, 874, 875, 876, 877, 878, 879, 880, 881, 882, 883, 884, 885, 886, 887, 888, 889, 890, 891, 892, 893, 894] (by decide +kernel) (by decide +kernel)
set_option maxRecDepth 20000 in
theorem gL_law_X7_openIn : GoodIn wsL_law (wsV RL 217 RX7 yX7_openIn wsX7_openIn) := goodIn_app (goodIn_of _ (by decide +kernel)) ggL_law_X7_openIn
set_option maxRecDepth 20000 in
theorem ggL_law_L_openedAt : GoodIn wsL_law wsL_openedAt := goodIn_ca (goodIn_r _ [792, 151, 793, 794, 795, 2, 796, 28, 797, 798, 799, 800, 160, 161, 414, 415, 416, 27, 417, 88, 801, 802, 803, 804, 83, 336, 178, 179, 41, 180, 49, 805, 806, 807, 808, 82, 862, 863, 864, 865, 866, 867, 868, 908, 909, 910, 911, 912, 913, 914, 921] (by decide +kernel) (by decide +kernel)) (goodIn_sub (fun _ h => List.mem_append_left _ (List.mem_append_right _ h)) (by decide +kernel))
set_option maxRecDepth 20000 in
theorem gL_law_L_openedAt : GoodIn wsL_law (va_wsS RL 218 yL_openedAt wsL_openedAt) := goodIn_app (goodIn_of _ (by decide +kernel)) ggL_law_L_openedAt
set_option maxRecDepth 20000 in
theorem ggL_law_X7_openedAt : GoodIn wsL_law wsX7_openedAt := goodIn_r _ [812, 143, 124, 123, 813, 814, 815, 5, 816, 352, 192, 193, 194, 242, 243, 244, 245, 869, 870, 871, 872, 873, 874, 875, 876, 877, 878, 879, 880, 881, 882, 883, 884, 885, 886, 887, 888, 889, 890, 891, 892, 893, 894] (by decide +kernel) (by decide +kernel)
set_option maxRecDepth 20000 in
theorem gL_law_X7_openedAt : GoodIn wsL_law (wsV RL 220 RX7 yX7_openedAt wsX7_openedAt) := goodIn_app (goodIn_of _ (by decide +kernel)) ggL_law_X7_openedAt
set_option maxRecDepth 20000 in
theorem ggL_law_L_closedAt : GoodIn wsL_law wsL_closedAt := goodIn_ca (goodIn_r _ [819, 151, 820, 821, 822, 2, 823, 28, 797, 798, 799, 800, 160, 161, 414, 415, 416, 27, 417, 88, 824, 825, 826, 827, 84, 336, 178, 179, 41, 180, 49, 862, 863, 864, 865, 866, 867, 868, 908, 909, 910, 911, 912, 913, 914, 921] (by decide +kernel) (by decide +kernel)) (goodIn_sub (fun _ h => List.mem_append_left _ (List.mem_append_right _ h)) (by decide +kernel))
set_option maxRecDepth 20000 in
theorem gL_law_L_closedAt : GoodIn wsL_law (va_wsS RL 221 yL_closedAt wsL_closedAt) := goodIn_app (goodIn_of _ (by decide +kernel)) ggL_law_L_closedAt
set_option maxRecDepth 20000 in
theorem ggL_law_X7_closedAt : GoodIn wsL_law wsX7_closedAt := goodIn_r _ [831, 143, 125, 813, 814, 815, 5, 816, 352, 192, 193, 194, 242, 243, 244, 245, 869, 870, 871, 872, 873, 874, 875, 876, 877, 878, 879, 880, 881, 882, 883, 884, 885, 886, 887, 888, 889, 890, 891, 892, 893, 894] (by decide +kernel) (by decide +kernel)
set_option maxRecDepth 20000 in
theorem gL_law_X7_closedAt : GoodIn wsL_law (wsV RL 223 RX7 yX7_closedAt wsX7_closedAt) := goodIn_app (goodIn_of _ (by decide +kernel)) ggL_law_X7_closedAt
set_option maxRecDepth 20000 in
theorem ggL_law_L_tracedTo : GoodIn wsL_law wsL_tracedTo := goodIn_ca (goodIn_r _ [834, 151, 835, 836, 837, 2, 838, 28, 797, 798, 799, 800, 160, 161, 414, 415, 416, 27, 417, 88, 839, 840, 841, 842, 85, 336, 178, 179, 41, 180, 49, 862, 863, 864, 865, 866, 867, 868, 908, 909, 910, 911, 912, 913, 914, 921] (by decide +kernel) (by decide +kernel)) (goodIn_sub (fun _ h => List.mem_append_left _ (List.mem_append_right _ h)) (by decide +kernel))
set_option maxRecDepth 20000 in
theorem gL_law_L_tracedTo : GoodIn wsL_law (va_wsS RL 224 yL_tracedTo wsL_tracedTo) := goodIn_app (goodIn_of _ (by decide +kernel)) ggL_law_L_tracedTo
set_option maxRecDepth 20000 in
theorem ggL_law_X7_tracedTo : GoodIn wsL_law wsX7_tracedTo := goodIn_r _ [846, 143, 126, 813, 814, 815, 5, 816, 352, 192, 193, 194, 242, 243, 244, 245, 869, 870, 871, 872, 873, 874, 875, 876, 877, 878, 879, 880, 881, 882, 883, 884, 885, 886, 887, 888, 889, 890, 891, 892, 893, 894] (by decide +kernel) (by decide +kernel)
set_option maxRecDepth 20000 in
theorem gL_law_X7_tracedTo : GoodIn wsL_law (wsV RL 226 RX7 yX7_tracedTo wsX7_tracedTo) := goodIn_app (goodIn_of _ (by decide +kernel)) ggL_law_X7_tracedTo
set_option maxRecDepth 20000 in
theorem ggL_law_L_firstCalled : GoodIn wsL_law wsL_firstCalled := goodIn_ca (goodIn_r _ [849, 151, 850, 851, 852, 2, 853, 28, 797, 798, 799, 800, 160, 161, 414, 415, 416, 27, 417, 88, 854, 855, 856, 857, 86, 336, 178, 179, 41, 180, 49, 862, 863, 864, 865, 866, 867, 868, 908, 909, 910, 911, 912, 913, 914, 921] (by decide +kernel) (by decide +kernel)) (goodIn_sub (fun _ h => List.mem_append_left _ (List.mem_append_right _ h)) (by decide +kernel))
set_option maxRecDepth 20000 in
theorem gL_law_L_firstCalled : GoodIn wsL_law (va_wsS RL 227 yL_firstCalled wsL_firstCalled) := goodIn_app (goodIn_of _ (by decide +kernel)) ggL_law_L_firstCalled
set_option maxRecDepth 20000 in
theorem ggL_law_X7_firstCalled : GoodIn wsL_law wsX7_firstCalled := goodIn_r _ [861, 143, 127, 813, 814, 815, 5, 816, 352, 192, 193, 194, 242, 243, 244, 245, 869, 870, 871, 872, 873, 874, 875, 876, 877, 878, 879, 880, 881, 882, 883, 884, 885, 886, 887, 888, 889, 890, 891, 892, 893, 894] (by decide +kernel) (by decide +kernel)
set_option maxRecDepth 20000 in
theorem gL_law_X7_firstCalled : GoodIn wsL_law (wsV RL 229 RX7 yX7_firstCalled wsX7_firstCalled) := goodIn_app (goodIn_of _ (by decide +kernel)) ggL_law_X7_firstCalled
theorem dL_law_0 : decode cL_law 0 = .ok (.new 8, 3) := by decide +kernel
theorem dL_law_3 : decode cL_law 3 = .ok (.dup, 1) := by decide +kernel
theorem dL_law_4 : decode cL_law 4 = .ok (.invokespecial 107, 3) := by decide +kernel
theorem dL_law_7 : decode cL_law 7 = .ok (.astore_n 1, 1) := by decide +kernel
theorem dL_law_8 : decode cL_law 8 = .ok (.new 108, 3) := by decide +kernel
theorem dL_law_11 : decode cL_law 11 = .ok (.dup, 1) := by decide +kernel
theorem dL_law_12 : decode cL_law 12 = .ok (.invokespecial 110, 3) := by decide +kernel
theorem dL_law_15 : decode cL_law 15 = .ok (.astore_n 2, 1) := by decide +kernel
theorem dL_law_16 : decode cL_law 16 = .ok (.iconst 1, 1) := by decide +kernel
theorem dL_law_17 : decode cL_law 17 = .ok (.newarray .long, 2) := by decide +kernel
theorem dL_law_19 : decode cL_law 19 = .ok (.astore_n 3, 1) := by decide +kernel
theorem dL_law_20 : decode cL_law 20 = .ok (.iconst 0, 1) := by decide +kernel
theorem dL_law_21 : decode cL_law 21 = .ok (.istore 4, 2) := by decide +kernel
theorem dL_law_23 : decode cL_law 23 = .ok (.iload 4, 2) := by decide +kernel
theorem dL_law_25 : decode cL_law 25 = .ok (.aload_n 0, 1) := by decide +kernel
theorem dL_law_26 : decode cL_law 26 = .ok (.arraylength, 1) := by decide +kernel
theorem dL_law_27 : decode cL_law 27 = .ok (.iconst 4, 1) := by decide +kernel
theorem dL_law_28 : decode cL_law 28 = .ok (.isub, 1) := by decide +kernel
theorem dL_law_29 : decode cL_law 29 = .ok (.if_icmp .gt 2019, 3) := by decide +kernel
theorem dL_law_32 : decode cL_law 32 = .ok (.aload_n 0, 1) := by decide +kernel
theorem dL_law_33 : decode cL_law 33 = .ok (.iload 4, 2) := by decide +kernel
theorem dL_law_35 : decode cL_law 35 = .ok (.iaload, 1) := by decide +kernel
theorem dL_law_36 : decode cL_law 36 = .ok (.bipush 63, 2) := by decide +kernel
theorem dL_law_38 : decode cL_law 38 = .ok (.iand, 1) := by decide +kernel
theorem dL_law_39 : decode cL_law 39 = .ok (.tableswitch 2003 0 33 #[149, 193, 289, 385, 465, 545, 613, 669, 725, 738, 794, 850, 906, 969, 982, 1066, 1079, 1092, 1148, 1204, 1279, 1342, 1398, 1411, 1467, 1523, 1598, 1654, 1710, 1723, 1779, 1835, 1891, 1947], 149) := by decide +kernel
theorem dL_law_188 : decode cL_law 188 = .ok (.aload_n 1, 1) := by decide +kernel
theorem dL_law_189 : decode cL_law 189 = .ok (.aload_n 3, 1) := by decide +kernel
theorem dL_law_190 : decode cL_law 190 = .ok (.invokestatic 111, 3) := by decide +kernel
theorem dL_law_193 : decode cL_law 193 = .ok (.istore 5, 2) := by decide +kernel
theorem dL_law_195 : decode cL_law 195 = .ok (.aload_n 2, 1) := by decide +kernel
theorem dL_law_196 : decode cL_law 196 = .ok (.invokevirtual 116, 3) := by decide +kernel
theorem dL_law_199 : decode cL_law 199 = .ok (.istore 6, 2) := by decide +kernel
theorem dL_law_201 : decode cL_law 201 = .ok (.aload_n 2, 1) := by decide +kernel
theorem dL_law_202 : decode cL_law 202 = .ok (.invokevirtual 117, 3) := by decide +kernel
theorem dL_law_205 : decode cL_law 205 = .ok (.iload 5, 2) := by decide +kernel
theorem dL_law_207 : decode cL_law 207 = .ok (.if_icmp .eq 5, 3) := by decide +kernel
theorem dL_law_210 : decode cL_law 210 = .ok (.iconst 0, 1) := by decide +kernel
theorem dL_law_211 : decode cL_law 211 = .ok (.ireturn, 1) := by decide +kernel
theorem dL_law_212 : decode cL_law 212 = .ok (.iload 5, 2) := by decide +kernel
theorem dL_law_214 : decode cL_law 214 = .ok (.ifCond .ne 15, 3) := by decide +kernel
theorem dL_law_217 : decode cL_law 217 = .ok (.aload_n 3, 1) := by decide +kernel
theorem dL_law_218 : decode cL_law 218 = .ok (.iconst 0, 1) := by decide +kernel
theorem dL_law_219 : decode cL_law 219 = .ok (.laload, 1) := by decide +kernel
theorem dL_law_220 : decode cL_law 220 = .ok (.iload 6, 2) := by decide +kernel
theorem dL_law_222 : decode cL_law 222 = .ok (.i2l, 1) := by decide +kernel
theorem dL_law_223 : decode cL_law 223 = .ok (.lcmp, 1) := by decide +kernel
theorem dL_law_224 : decode cL_law 224 = .ok (.ifCond .eq 5, 3) := by decide +kernel
theorem dL_law_227 : decode cL_law 227 = .ok (.iconst 0, 1) := by decide +kernel
theorem dL_law_228 : decode cL_law 228 = .ok (.ireturn, 1) := by decide +kernel
theorem dL_law_229 : decode cL_law 229 = .ok (.goto 1813, 3) := by decide +kernel
theorem dL_law_232 : decode cL_law 232 = .ok (.aload_n 1, 1) := by decide +kernel
theorem dL_law_233 : decode cL_law 233 = .ok (.aload_n 0, 1) := by decide +kernel
theorem dL_law_234 : decode cL_law 234 = .ok (.iload 4, 2) := by decide +kernel
theorem dL_law_236 : decode cL_law 236 = .ok (.iconst 1, 1) := by decide +kernel
theorem dL_law_237 : decode cL_law 237 = .ok (.iadd, 1) := by decide +kernel
theorem dL_law_238 : decode cL_law 238 = .ok (.iaload, 1) := by decide +kernel
theorem dL_law_239 : decode cL_law 239 = .ok (.aload_n 0, 1) := by decide +kernel
theorem dL_law_240 : decode cL_law 240 = .ok (.iload 4, 2) := by decide +kernel
theorem dL_law_242 : decode cL_law 242 = .ok (.iconst 2, 1) := by decide +kernel
theorem dL_law_243 : decode cL_law 243 = .ok (.iadd, 1) := by decide +kernel
theorem dL_law_244 : decode cL_law 244 = .ok (.iaload, 1) := by decide +kernel
theorem dL_law_245 : decode cL_law 245 = .ok (.aload_n 0, 1) := by decide +kernel
theorem dL_law_246 : decode cL_law 246 = .ok (.iload 4, 2) := by decide +kernel
theorem dL_law_248 : decode cL_law 248 = .ok (.iconst 3, 1) := by decide +kernel
theorem dL_law_249 : decode cL_law 249 = .ok (.iadd, 1) := by decide +kernel
theorem dL_law_250 : decode cL_law 250 = .ok (.iaload, 1) := by decide +kernel
theorem dL_law_251 : decode cL_law 251 = .ok (.ifCond .eq 7, 3) := by decide +kernel
theorem dL_law_254 : decode cL_law 254 = .ok (.iconst 1, 1) := by decide +kernel
theorem dL_law_255 : decode cL_law 255 = .ok (.goto 4, 3) := by decide +kernel
theorem dL_law_258 : decode cL_law 258 = .ok (.iconst 0, 1) := by decide +kernel
theorem dL_law_259 : decode cL_law 259 = .ok (.aload_n 3, 1) := by decide +kernel
theorem dL_law_260 : decode cL_law 260 = .ok (.invokestatic 120, 3) := by decide +kernel
theorem dL_law_263 : decode cL_law 263 = .ok (.istore 5, 2) := by decide +kernel
theorem dL_law_265 : decode cL_law 265 = .ok (.aload_n 2, 1) := by decide +kernel
theorem dL_law_266 : decode cL_law 266 = .ok (.aload_n 0, 1) := by decide +kernel
theorem dL_law_267 : decode cL_law 267 = .ok (.iload 4, 2) := by decide +kernel
theorem dL_law_269 : decode cL_law 269 = .ok (.iconst 1, 1) := by decide +kernel
theorem dL_law_270 : decode cL_law 270 = .ok (.iadd, 1) := by decide +kernel
theorem dL_law_271 : decode cL_law 271 = .ok (.iaload, 1) := by decide +kernel
theorem dL_law_272 : decode cL_law 272 = .ok (.aload_n 0, 1) := by decide +kernel
theorem dL_law_273 : decode cL_law 273 = .ok (.iload 4, 2) := by decide +kernel
theorem dL_law_275 : decode cL_law 275 = .ok (.iconst 2, 1) := by decide +kernel
theorem dL_law_276 : decode cL_law 276 = .ok (.iadd, 1) := by decide +kernel
theorem dL_law_277 : decode cL_law 277 = .ok (.iaload, 1) := by decide +kernel
theorem dL_law_278 : decode cL_law 278 = .ok (.aload_n 0, 1) := by decide +kernel
theorem dL_law_279 : decode cL_law 279 = .ok (.iload 4, 2) := by decide +kernel
theorem dL_law_281 : decode cL_law 281 = .ok (.iconst 3, 1) := by decide +kernel
theorem dL_law_282 : decode cL_law 282 = .ok (.iadd, 1) := by decide +kernel
theorem dL_law_283 : decode cL_law 283 = .ok (.iaload, 1) := by decide +kernel
theorem dL_law_284 : decode cL_law 284 = .ok (.ifCond .eq 7, 3) := by decide +kernel
theorem dL_law_287 : decode cL_law 287 = .ok (.iconst 1, 1) := by decide +kernel
theorem dL_law_288 : decode cL_law 288 = .ok (.goto 4, 3) := by decide +kernel
theorem dL_law_291 : decode cL_law 291 = .ok (.iconst 0, 1) := by decide +kernel
theorem dL_law_292 : decode cL_law 292 = .ok (.invokevirtual 123, 3) := by decide +kernel
theorem dL_law_295 : decode cL_law 295 = .ok (.istore 6, 2) := by decide +kernel
theorem dL_law_297 : decode cL_law 297 = .ok (.aload_n 2, 1) := by decide +kernel
theorem dL_law_298 : decode cL_law 298 = .ok (.invokevirtual 117, 3) := by decide +kernel
theorem dL_law_301 : decode cL_law 301 = .ok (.iload 5, 2) := by decide +kernel
theorem dL_law_303 : decode cL_law 303 = .ok (.if_icmp .eq 5, 3) := by decide +kernel
theorem dL_law_306 : decode cL_law 306 = .ok (.iconst 0, 1) := by decide +kernel
theorem dL_law_307 : decode cL_law 307 = .ok (.ireturn, 1) := by decide +kernel
theorem dL_law_308 : decode cL_law 308 = .ok (.iload 5, 2) := by decide +kernel
theorem dL_law_310 : decode cL_law 310 = .ok (.ifCond .ne 15, 3) := by decide +kernel
theorem dL_law_313 : decode cL_law 313 = .ok (.aload_n 3, 1) := by decide +kernel
theorem dL_law_314 : decode cL_law 314 = .ok (.iconst 0, 1) := by decide +kernel
theorem dL_law_315 : decode cL_law 315 = .ok (.laload, 1) := by decide +kernel
theorem dL_law_316 : decode cL_law 316 = .ok (.iload 6, 2) := by decide +kernel
theorem dL_law_318 : decode cL_law 318 = .ok (.i2l, 1) := by decide +kernel
theorem dL_law_319 : decode cL_law 319 = .ok (.lcmp, 1) := by decide +kernel
theorem dL_law_320 : decode cL_law 320 = .ok (.ifCond .eq 5, 3) := by decide +kernel
theorem dL_law_323 : decode cL_law 323 = .ok (.iconst 0, 1) := by decide +kernel
theorem dL_law_324 : decode cL_law 324 = .ok (.ireturn, 1) := by decide +kernel
theorem dL_law_325 : decode cL_law 325 = .ok (.goto 1717, 3) := by decide +kernel
theorem dL_law_328 : decode cL_law 328 = .ok (.aload_n 1, 1) := by decide +kernel
theorem dL_law_329 : decode cL_law 329 = .ok (.aload_n 0, 1) := by decide +kernel
theorem dL_law_330 : decode cL_law 330 = .ok (.iload 4, 2) := by decide +kernel
theorem dL_law_332 : decode cL_law 332 = .ok (.iconst 1, 1) := by decide +kernel
theorem dL_law_333 : decode cL_law 333 = .ok (.iadd, 1) := by decide +kernel
theorem dL_law_334 : decode cL_law 334 = .ok (.iaload, 1) := by decide +kernel
theorem dL_law_335 : decode cL_law 335 = .ok (.aload_n 0, 1) := by decide +kernel
