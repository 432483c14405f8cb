set_option maxRecDepth 20000 in
theorem ggL_law_L_rollable : GoodIn wsL_law wsL_rollable := goodIn_ca (goodIn_r _ [690, 151, 691, 692, 693, 2, 694, 33, 314, 315, 316, 160, 161, 317, 318, 319, 320, 24, 321, 322, 323, 272, 273, 274, 23, 275, 74, 72, 276, 178, 179, 41, 180, 49, 324, 325, 326, 327, 34, 28, 328, 329, 330, 331, 70, 332, 333, 334, 27, 335, 87, 336, 862, 863, 864, 865, 866, 867, 868, 901, 902, 903, 904, 905, 906, 907, 921, 908, 909, 910, 911, 912, 913, 914] (by decide +kernel) (by decide +kernel)) (goodIn_sub (fun _ h => List.mem_append_left _ (List.mem_append_right _ h)) (by decide +kernel))
set_option maxRecDepth 20000 in
theorem gL_law_L_rollable : GoodIn wsL_law (va_wsS RL 189 yL_rollable wsL_rollable) := goodIn_app (goodIn_of _ (by decide +kernel)) ggL_law_L_rollable
set_option maxRecDepth 20000 in
theorem ggL_law_X7_rollable : GoodIn wsL_law wsX7_rollable := goodIn_r _ [698, 143, 107, 341, 342, 5, 343, 192, 193, 194, 295, 296, 297, 298, 116, 299, 300, 301, 302, 286, 114, 115, 344, 345, 346, 347, 117, 294, 348, 349, 350, 351, 352, 123, 125, 869, 870, 871, 872, 873, 874, 875, 876, 877, 878, 879, 880, 881, 882, 883, 884, 885, 886, 887, 888, 889, 890, 891, 892, 893, 894] (by decide +kernel) (by decide +kernel)
set_option maxRecDepth 20000 in
theorem gL_law_X7_rollable : GoodIn wsL_law (wsV RL 191 RX7 yX7_rollable wsX7_rollable) := goodIn_app (goodIn_of _ (by decide +kernel)) ggL_law_X7_rollable
set_option maxRecDepth 20000 in
theorem ggL_law_X6_changes : GoodIn wsL_law wsX6_changes := goodIn_r _ [702, 24, 268, 269, 270, 23, 271, 75, 862, 863, 864, 865, 866, 867, 868, 901, 902, 903, 904, 905, 906, 907] (by decide +kernel) (by decide +kernel)
set_option maxRecDepth 20000 in
theorem gL_law_X6_changes : GoodIn wsL_law (wsV RL 192 RX6 yX6_changes wsX6_changes) := goodIn_app (goodIn_of _ (by decide +kernel)) ggL_law_X6_changes
set_option maxRecDepth 20000 in
theorem ggL_law_X7_changes : GoodIn wsL_law wsX7_changes := goodIn_r _ [706, 143, 286, 869, 870, 871, 872, 873, 874, 875, 876, 877, 878, 879, 880, 881, 882, 883, 884, 885, 886, 887, 888, 889, 890, 891, 892, 893, 894] (by decide +kernel) (by decide +kernel)
set_option maxRecDepth 20000 in
theorem gL_law_X7_changes : GoodIn wsL_law (wsV RL 195 RX7 yX7_changes wsX7_changes) := goodIn_app (goodIn_of _ (by decide +kernel)) ggL_law_X7_changes
set_option maxRecDepth 20000 in
theorem ggL_law_L_change : GoodIn wsL_law wsL_change := goodIn_ca (goodIn_r _ [709, 151, 710, 711, 712, 2, 713, 24, 360, 361, 362, 363, 160, 161, 268, 269, 270, 23, 271, 75, 364, 365, 366, 367, 71, 276, 178, 179, 41, 180, 49, 476, 477, 478, 479, 69, 714, 715, 716, 717, 72, 165, 166, 167, 862, 863, 864, 865, 866, 867, 868, 901, 902, 903, 904, 905, 906, 907, 921] (by decide +kernel) (by decide +kernel)) (goodIn_sub (fun _ h => List.mem_append_left _ (List.mem_append_right _ h)) (by decide +kernel))
set_option maxRecDepth 20000 in
theorem gL_law_L_change : GoodIn wsL_law (va_wsS RL 196 yL_change wsL_change) := goodIn_app (goodIn_of _ (by decide +kernel)) ggL_law_L_change
set_option maxRecDepth 20000 in
theorem ggL_law_X7_change : GoodIn wsL_law wsX7_change := goodIn_r _ [721, 143, 113, 114, 115, 116, 380, 381, 382, 5, 383, 286, 192, 193, 194, 242, 243, 244, 245, 869, 870, 871, 872, 873, 874, 875, 876, 877, 878, 879, 880, 881, 882, 883, 884, 885, 886, 887, 888, 889, 890, 891, 892, 893, 894] (by decide +kernel) (by decide +kernel)
set_option maxRecDepth 20000 in
theorem gL_law_X7_change : GoodIn wsL_law (wsV RL 198 RX7 yX7_change wsX7_change) := goodIn_app (goodIn_of _ (by decide +kernel)) ggL_law_X7_change
set_option maxRecDepth 20000 in
theorem ggL_law_L_madeAt : GoodIn wsL_law wsL_madeAt := goodIn_ca (goodIn_r _ [724, 151, 725, 726, 727, 2, 728, 24, 360, 361, 362, 363, 160, 161, 268, 269, 270, 23, 271, 75, 729, 730, 731, 732, 70, 276, 178, 179, 41, 180, 49, 862, 863, 864, 865, 866, 867, 868, 901, 902, 903, 904, 905, 906, 907, 921] (by decide +kernel) (by decide +kernel)) (goodIn_sub (fun _ h => List.mem_append_left _ (List.mem_append_right _ h)) (by decide +kernel))
set_option maxRecDepth 20000 in
theorem gL_law_L_madeAt : GoodIn wsL_law (va_wsS RL 199 yL_madeAt wsL_madeAt) := goodIn_app (goodIn_of _ (by decide +kernel)) ggL_law_L_madeAt
set_option maxRecDepth 20000 in
theorem ggL_law_X7_madeAt : GoodIn wsL_law wsX7_madeAt := goodIn_r _ [736, 143, 117, 380, 381, 382, 5, 383, 286, 192, 193, 194, 242, 243, 244, 245, 869, 870, 871, 872, 873, 874, 875, 876, 877, 878, 879, 880, 881, 882, 883, 884, 885, 886, 887, 888, 889, 890, 891, 892, 893, 894] (by decide +kernel) (by decide +kernel)
set_option maxRecDepth 20000 in
theorem gL_law_X7_madeAt : GoodIn wsL_law (wsV RL 201 RX7 yX7_madeAt wsX7_madeAt) := goodIn_app (goodIn_of _ (by decide +kernel)) ggL_law_X7_madeAt
set_option maxRecDepth 20000 in
theorem ggL_law_L_heals : GoodIn wsL_law wsL_heals := goodIn_ca (goodIn_r _ [739, 151, 740, 741, 742, 2, 743, 360, 361, 362, 363, 160, 161, 24, 268, 269, 270, 23, 271, 75, 314, 315, 316, 438, 439, 440, 441, 20, 16, 317, 318, 319, 320, 321, 322, 323, 272, 273, 274, 275, 74, 72, 276, 178, 179, 41, 180, 49, 442, 443, 444, 445, 446, 181, 182, 447, 448, 449, 15, 450, 43, 212, 451, 452, 453, 19, 454, 59, 60, 61, 177, 468, 469, 470, 471, 364, 365, 366, 367, 71, 372, 373, 374, 375, 73, 165, 166, 167, 862, 863, 864, 865, 866, 867, 868, 901, 902, 903, 904, 905, 906, 907, 921, 895, 896, 897, 898, 899, 900] (by decide +kernel) (by decide +kernel)) (goodIn_sub (fun _ h => List.mem_append_left _ (List.mem_append_right _ h)) (by decide +kernel))
set_option maxRecDepth 20000 in
theorem gL_law_L_heals : GoodIn wsL_law (va_wsS RL 202 yL_heals wsL_heals) := goodIn_app (goodIn_of _ (by decide +kernel)) ggL_law_L_heals
