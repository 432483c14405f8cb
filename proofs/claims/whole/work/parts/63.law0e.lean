set_option maxRecDepth 20000 in
theorem ggL_law_X7_versions : GoodIn wsL_law wsX7_versions := goodIn_r _ [642, 143, 107, 869, 870, 871, 872, 873, 874, 875, 876, 877, 878, 879, 880, 881, 882, 883, 884, 885, 886, 887, 888, 889, 890, 891, 892, 893, 894] (by decide +kernel) (by decide +kernel)
set_option maxRecDepth 20000 in
theorem gL_law_X7_versions : GoodIn wsL_law (wsV RL 176 RX7 yX7_versions wsX7_versions) := goodIn_app (goodIn_of _ (by decide +kernel)) ggL_law_X7_versions
set_option maxRecDepth 20000 in
theorem ggL_law_L_version : GoodIn wsL_law wsL_version := goodIn_ca (goodIn_r _ [645, 151, 646, 647, 648, 2, 649, 314, 315, 316, 160, 161, 317, 318, 319, 320, 24, 321, 322, 323, 272, 273, 274, 23, 275, 74, 72, 276, 178, 179, 41, 180, 49, 862, 863, 864, 865, 866, 867, 868, 901, 902, 903, 904, 905, 906, 907, 921] (by decide +kernel) (by decide +kernel)) (goodIn_sub (fun _ h => List.mem_append_left _ (List.mem_append_right _ h)) (by decide +kernel))
set_option maxRecDepth 20000 in
theorem gL_law_L_version : GoodIn wsL_law (va_wsS RL 177 yL_version wsL_version) := goodIn_app (goodIn_of _ (by decide +kernel)) ggL_law_L_version
set_option maxRecDepth 20000 in
theorem ggL_law_X7_version : GoodIn wsL_law wsX7_version := goodIn_r _ [653, 143, 341, 342, 5, 343, 192, 193, 194, 295, 296, 297, 298, 116, 299, 300, 301, 302, 286, 114, 115, 242, 243, 244, 245, 869, 870, 871, 872, 873, 874, 875, 876, 877, 878, 879, 880, 881, 882, 883, 884, 885, 886, 887, 888, 889, 890, 891, 892, 893, 894] (by decide +kernel) (by decide +kernel)
set_option maxRecDepth 20000 in
theorem gL_law_X7_version : GoodIn wsL_law (wsV RL 179 RX7 yX7_version wsX7_version) := goodIn_app (goodIn_of _ (by decide +kernel)) ggL_law_X7_version
set_option maxRecDepth 20000 in
theorem ggL_law_L_level : GoodIn wsL_law wsL_level := goodIn_ca (goodIn_r _ [656, 151, 657, 658, 659, 2, 660, 24, 162, 163, 164, 160, 161, 165, 166, 167, 272, 273, 274, 23, 275, 74, 72, 276, 178, 179, 41, 180, 49, 862, 863, 864, 865, 866, 867, 868, 901, 902, 903, 904, 905, 906, 907, 921] (by decide +kernel) (by decide +kernel)) (goodIn_sub (fun _ h => List.mem_append_left _ (List.mem_append_right _ h)) (by decide +kernel))
set_option maxRecDepth 20000 in
theorem gL_law_L_level : GoodIn wsL_law (va_wsS RL 180 yL_level wsL_level) := goodIn_app (goodIn_of _ (by decide +kernel)) ggL_law_L_level
set_option maxRecDepth 20000 in
theorem ggL_law_X7_level : GoodIn wsL_law wsX7_level := goodIn_r _ [664, 143, 195, 196, 5, 197, 192, 193, 194, 295, 296, 297, 298, 116, 299, 300, 301, 302, 286, 114, 115, 242, 243, 244, 245, 869, 870, 871, 872, 873, 874, 875, 876, 877, 878, 879, 880, 881, 882, 883, 884, 885, 886, 887, 888, 889, 890, 891, 892, 893, 894] (by decide +kernel) (by decide +kernel)
set_option maxRecDepth 20000 in
theorem gL_law_X7_level : GoodIn wsL_law (wsV RL 182 RX7 yX7_level wsX7_level) := goodIn_app (goodIn_of _ (by decide +kernel)) ggL_law_X7_level
set_option maxRecDepth 20000 in
theorem ggL_law_L_isOn : GoodIn wsL_law wsL_isOn := goodIn_ca (goodIn_r _ [667, 151, 668, 669, 670, 2, 671, 16, 162, 163, 164, 160, 161, 165, 166, 167, 314, 315, 316, 442, 443, 444, 445, 24, 272, 273, 274, 23, 275, 74, 72, 276, 178, 179, 41, 180, 49, 446, 181, 182, 447, 448, 449, 15, 450, 43, 212, 672, 213, 214, 862, 863, 864, 865, 866, 867, 868, 901, 902, 903, 904, 905, 906, 907, 921, 895, 896] (by decide +kernel) (by decide +kernel)) (goodIn_sub (fun _ h => List.mem_append_left _ (List.mem_append_right _ h)) (by decide +kernel))
set_option maxRecDepth 20000 in
theorem gL_law_L_isOn : GoodIn wsL_law (va_wsS RL 183 yL_isOn wsL_isOn) := goodIn_app (goodIn_of _ (by decide +kernel)) ggL_law_L_isOn
set_option maxRecDepth 20000 in
theorem ggL_law_X7_isOn : GoodIn wsL_law wsX7_isOn := goodIn_r _ [676, 143, 195, 196, 5, 197, 192, 193, 194, 341, 342, 343, 521, 522, 523, 524, 108, 295, 296, 297, 298, 116, 299, 300, 301, 302, 286, 114, 115, 869, 870, 871, 872, 873, 874, 875, 876, 877, 878, 879, 880, 881, 882, 883, 884, 885, 886, 887, 888, 889, 890, 891, 892, 893, 894] (by decide +kernel) (by decide +kernel)
set_option maxRecDepth 20000 in
theorem gL_law_X7_isOn : GoodIn wsL_law (wsV RL 185 RX7 yX7_isOn wsX7_isOn) := goodIn_app (goodIn_of _ (by decide +kernel)) ggL_law_X7_isOn
set_option maxRecDepth 20000 in
theorem ggL_law_L_isFaulty : GoodIn wsL_law wsL_isFaulty := goodIn_ca (goodIn_r _ [679, 151, 680, 681, 682, 2, 683, 314, 315, 316, 160, 161, 438, 439, 440, 441, 20, 16, 317, 318, 319, 320, 24, 321, 322, 323, 272, 273, 274, 23, 275, 74, 72, 276, 178, 179, 41, 180, 49, 442, 443, 444, 445, 446, 181, 182, 447, 448, 449, 15, 450, 43, 212, 451, 452, 453, 19, 454, 59, 60, 61, 177, 862, 863, 864, 865, 866, 867, 868, 901, 902, 903, 904, 905, 906, 907, 921, 895, 896, 897, 898, 899, 900] (by decide +kernel) (by decide +kernel)) (goodIn_sub (fun _ h => List.mem_append_left _ (List.mem_append_right _ h)) (by decide +kernel))
set_option maxRecDepth 20000 in
theorem gL_law_L_isFaulty : GoodIn wsL_law (va_wsS RL 186 yL_isFaulty wsL_isFaulty) := goodIn_app (goodIn_of _ (by decide +kernel)) ggL_law_L_isFaulty
set_option maxRecDepth 20000 in
theorem ggL_law_X7_isFaulty : GoodIn wsL_law wsX7_isFaulty := goodIn_r _ [687, 143, 341, 342, 5, 343, 192, 193, 194, 517, 518, 519, 520, 187, 110, 112, 109, 295, 296, 297, 298, 116, 299, 300, 301, 302, 286, 114, 115, 521, 522, 523, 524, 108, 869, 870, 871, 872, 873, 874, 875, 876, 877, 878, 879, 880, 881, 882, 883, 884, 885, 886, 887, 888, 889, 890, 891, 892, 893, 894] (by decide +kernel) (by decide +kernel)
set_option maxRecDepth 20000 in
theorem gL_law_X7_isFaulty : GoodIn wsL_law (wsV RL 188 RX7 yX7_isFaulty wsX7_isFaulty) := goodIn_app (goodIn_of _ (by decide +kernel)) ggL_law_X7_isFaulty
