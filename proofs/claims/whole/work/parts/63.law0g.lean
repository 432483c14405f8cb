set_option maxRecDepth 20000 in
theorem ggL_law_X7_heals : GoodIn wsL_law wsX7_heals := goodIn_r _ [747, 143, 380, 381, 382, 5, 383, 286, 192, 193, 194, 341, 342, 343, 517, 518, 519, 520, 187, 110, 112, 109, 295, 296, 297, 298, 116, 299, 300, 301, 302, 114, 115, 521, 522, 523, 524, 108, 869, 870, 871, 872, 873, 874, 875, 876, 877, 878, 879, 880, 881, 882, 883, 884, 885, 886, 887, 888, 889, 890, 891, 892, 893, 894] (by decide +kernel) (by decide +kernel)
set_option maxRecDepth 20000 in
theorem gL_law_X7_heals : GoodIn wsL_law (wsV RL 204 RX7 yX7_heals wsX7_heals) := goodIn_app (goodIn_of _ (by decide +kernel)) ggL_law_X7_heals
set_option maxRecDepth 20000 in
theorem ggL_law_L_trace : GoodIn wsL_law wsL_trace := goodIn_ca (goodIn_r _ [750, 151, 751, 752, 753, 2, 754, 314, 315, 316, 160, 161, 464, 465, 466, 467, 24, 438, 439, 440, 441, 20, 16, 317, 318, 319, 320, 321, 322, 323, 272, 273, 274, 23, 275, 74, 72, 276, 178, 179, 41, 180, 49, 442, 443, 444, 445, 446, 181, 182, 447, 448, 449, 15, 450, 43, 212, 451, 452, 453, 19, 454, 59, 60, 61, 177, 368, 369, 370, 371, 165, 166, 167, 468, 469, 470, 471, 364, 365, 366, 367, 71, 372, 373, 374, 375, 73, 862, 863, 864, 865, 866, 867, 868, 901, 902, 903, 904, 905, 906, 907, 921, 895, 896, 897, 898, 899, 900] (by decide +kernel) (by decide +kernel)) (goodIn_sub (fun _ h => List.mem_append_left _ (List.mem_append_right _ h)) (by decide +kernel))
set_option maxRecDepth 20000 in
theorem gL_law_L_trace : GoodIn wsL_law (va_wsS RL 205 yL_trace wsL_trace) := goodIn_app (goodIn_of _ (by decide +kernel)) ggL_law_L_trace
set_option maxRecDepth 20000 in
theorem ggL_law_X7_trace : GoodIn wsL_law wsX7_trace := goodIn_r _ [758, 143, 341, 342, 5, 343, 192, 193, 194, 529, 530, 531, 532, 286, 517, 518, 519, 520, 187, 110, 112, 109, 295, 296, 297, 298, 116, 299, 300, 301, 302, 114, 115, 521, 522, 523, 524, 108, 242, 243, 244, 245, 869, 870, 871, 872, 873, 874, 875, 876, 877, 878, 879, 880, 881, 882, 883, 884, 885, 886, 887, 888, 889, 890, 891, 892, 893, 894] (by decide +kernel) (by decide +kernel)
set_option maxRecDepth 20000 in
theorem gL_law_X7_trace : GoodIn wsL_law (wsV RL 207 RX7 yX7_trace wsX7_trace) := goodIn_app (goodIn_of _ (by decide +kernel)) ggL_law_X7_trace
set_option maxRecDepth 20000 in
theorem ggL_law_L_traceByTrying : GoodIn wsL_law wsL_traceByTrying := goodIn_ca (goodIn_r _ [761, 151, 762, 763, 764, 2, 765, 24, 314, 315, 316, 160, 161, 438, 439, 440, 441, 20, 16, 317, 318, 319, 320, 321, 322, 323, 272, 273, 274, 23, 275, 74, 72, 276, 178, 179, 41, 180, 49, 442, 443, 444, 445, 446, 181, 182, 447, 448, 449, 15, 450, 43, 212, 451, 452, 453, 19, 454, 59, 60, 61, 177, 268, 269, 270, 271, 75, 468, 469, 470, 471, 364, 365, 366, 367, 71, 372, 373, 374, 375, 73, 165, 166, 167, 862, 863, 864, 865, 866, 867, 868, 901, 902, 903, 904, 905, 906, 907, 921, 895, 896, 897, 898, 899, 900] (by decide +kernel) (by decide +kernel)) (goodIn_sub (fun _ h => List.mem_append_left _ (List.mem_append_right _ h)) (by decide +kernel))
set_option maxRecDepth 20000 in
theorem gL_law_L_traceByTrying : GoodIn wsL_law (va_wsS RL 208 yL_traceByTrying wsL_traceByTrying) := goodIn_app (goodIn_of _ (by decide +kernel)) ggL_law_L_traceByTrying
set_option maxRecDepth 20000 in
theorem ggL_law_X7_traceByTrying : GoodIn wsL_law wsX7_traceByTrying := goodIn_r _ [769, 770, 756, 757, 5, 758, 143, 341, 342, 343, 192, 193, 194, 529, 530, 531, 532, 286, 517, 518, 519, 520, 187, 110, 112, 109, 295, 296, 297, 298, 116, 299, 300, 301, 302, 114, 115, 521, 522, 523, 524, 108, 242, 243, 244, 245, 869, 870, 871, 872, 873, 874, 875, 876, 877, 878, 879, 880, 881, 882, 883, 884, 885, 886, 887, 888, 889, 890, 891, 892, 893, 894] (by decide +kernel) (by decide +kernel)
set_option maxRecDepth 20000 in
theorem gL_law_X7_traceByTrying : GoodIn wsL_law (wsV RL 210 RX7 yX7_traceByTrying wsX7_traceByTrying) := goodIn_app (goodIn_of _ (by decide +kernel)) ggL_law_X7_traceByTrying
set_option maxRecDepth 20000 in
theorem ggL_law_X6_incidents : GoodIn wsL_law wsX6_incidents := goodIn_r _ [774, 28, 414, 415, 416, 27, 417, 88, 862, 863, 864, 865, 866, 867, 868, 908, 909, 910, 911, 912, 913, 914] (by decide +kernel) (by decide +kernel)
set_option maxRecDepth 20000 in
theorem gL_law_X6_incidents : GoodIn wsL_law (wsV RL 211 RX6 yX6_incidents wsX6_incidents) := goodIn_app (goodIn_of _ (by decide +kernel)) ggL_law_X6_incidents
set_option maxRecDepth 20000 in
theorem ggL_law_X7_incidents : GoodIn wsL_law wsX7_incidents := goodIn_r _ [778, 143, 352, 869, 870, 871, 872, 873, 874, 875, 876, 877, 878, 879, 880, 881, 882, 883, 884, 885, 886, 887, 888, 889, 890, 891, 892, 893, 894] (by decide +kernel) (by decide +kernel)
set_option maxRecDepth 20000 in
theorem gL_law_X7_incidents : GoodIn wsL_law (wsV RL 214 RX7 yX7_incidents wsX7_incidents) := goodIn_app (goodIn_of _ (by decide +kernel)) ggL_law_X7_incidents
set_option maxRecDepth 20000 in
theorem ggL_law_L_openIn : GoodIn wsL_law wsL_openIn := goodIn_ca (goodIn_r _ [781, 151, 782, 783, 784, 2, 785, 28, 314, 315, 316, 160, 161, 460, 461, 462, 27, 463, 87, 336, 178, 179, 41, 180, 49, 862, 863, 864, 865, 866, 867, 868, 908, 909, 910, 911, 912, 913, 914, 921] (by decide +kernel) (by decide +kernel)) (goodIn_sub (fun _ h => List.mem_append_left _ (List.mem_append_right _ h)) (by decide +kernel))
set_option maxRecDepth 20000 in
theorem gL_law_L_openIn : GoodIn wsL_law (va_wsS RL 215 yL_openIn wsL_openIn) := goodIn_app (goodIn_of _ (by decide +kernel)) ggL_law_L_openIn
set_option maxRecDepth 20000 in
theorem ggL_law_X7_openIn : GoodIn wsL_law wsX7_openIn := goodIn_r _ [789, 143, 341, 342, 5, 343, 192, 193, 194, 348, 349, 350, 351, 352, 123, 125, 242, 243, 244, 245, 869, 870, 871, 872, 873, 874, 875, 876, 877, 878, 879, 880, 881, 882, 883, 884, 885, 886, 887, 888, 889, 890, 891, 892, 893, 894] (by decide +kernel) (by decide +kernel)
set_option maxRecDepth 20000 in
theorem gL_law_X7_openIn : GoodIn wsL_law (wsV RL 217 RX7 yX7_openIn wsX7_openIn) := goodIn_app (goodIn_of _ (by decide +kernel)) ggL_law_X7_openIn
