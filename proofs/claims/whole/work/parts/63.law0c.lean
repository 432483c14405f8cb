set_option maxRecDepth 20000 in
theorem ggL_law_X7_pass : GoodIn wsL_law wsX7_pass := goodIn_r _ [504, 294, 143, 352, 192, 193, 5, 194, 505, 506, 507, 508, 125, 509, 510, 511, 512, 119, 118, 513, 514, 515, 516, 348, 349, 350, 351, 123, 517, 518, 519, 520, 187, 110, 112, 109, 295, 296, 297, 298, 116, 299, 300, 301, 302, 286, 114, 115, 521, 522, 523, 524, 108, 525, 526, 527, 528, 124, 126, 127, 113, 529, 530, 531, 532, 533, 534, 535, 536, 537, 121, 122, 120, 538, 539, 540, 541, 290, 291, 292, 293, 869, 870, 871, 872, 873, 874, 875, 876, 877, 878, 879, 880, 881, 882, 883, 884, 885, 886, 887, 888, 889, 890, 891, 892, 893, 894] (by decide +kernel) (by decide +kernel)
set_option maxRecDepth 20000 in
theorem gL_law_X7_pass : GoodIn wsL_law (wsV RL 144 RX7 yX7_pass wsX7_pass) := goodIn_app (goodIn_of _ (by decide +kernel)) ggL_law_X7_pass
set_option maxRecDepth 20000 in
theorem ggL_law_X6_time : GoodIn wsL_law wsX6_time := goodIn_r _ [545, 34, 862, 863, 864, 865, 866, 867, 868] (by decide +kernel) (by decide +kernel)
set_option maxRecDepth 20000 in
theorem gL_law_X6_time : GoodIn wsL_law (wsV RL 145 RX6 yX6_time wsX6_time) := goodIn_app (goodIn_of _ (by decide +kernel)) ggL_law_X6_time
set_option maxRecDepth 20000 in
theorem ggL_law_X7_time : GoodIn wsL_law wsX7_time := goodIn_r _ [549, 143, 294, 869, 870, 871, 872, 873, 874, 875, 876, 877, 878, 879, 880, 881, 882, 883, 884, 885, 886, 887, 888, 889, 890, 891, 892, 893, 894] (by decide +kernel) (by decide +kernel)
set_option maxRecDepth 20000 in
theorem gL_law_X7_time : GoodIn wsL_law (wsV RL 148 RX7 yX7_time wsX7_time) := goodIn_app (goodIn_of _ (by decide +kernel)) ggL_law_X7_time
set_option maxRecDepth 20000 in
theorem ggL_law_L_holder : GoodIn wsL_law wsL_holder := goodIn_ca (goodIn_r _ [552, 151, 553, 554, 555, 2, 556, 160, 161, 32, 391, 392, 393, 394, 34, 395, 396, 397, 31, 398, 95, 267, 178, 179, 41, 180, 49, 862, 863, 864, 865, 866, 867, 868, 915, 916, 917, 918, 919, 920, 921] (by decide +kernel) (by decide +kernel)) (goodIn_sub (fun _ h => List.mem_append_left _ (List.mem_append_right _ h)) (by decide +kernel))
set_option maxRecDepth 20000 in
theorem gL_law_L_holder : GoodIn wsL_law (va_wsS RL 149 yL_holder wsL_holder) := goodIn_app (goodIn_of _ (by decide +kernel)) ggL_law_L_holder
set_option maxRecDepth 20000 in
theorem ggL_law_X7_holder : GoodIn wsL_law wsX7_holder := goodIn_r _ [560, 143, 294, 118, 192, 193, 5, 194, 242, 243, 244, 245, 869, 870, 871, 872, 873, 874, 875, 876, 877, 878, 879, 880, 881, 882, 883, 884, 885, 886, 887, 888, 889, 890, 891, 892, 893, 894] (by decide +kernel) (by decide +kernel)
set_option maxRecDepth 20000 in
theorem gL_law_X7_holder : GoodIn wsL_law (wsV RL 151 RX7 yX7_holder wsX7_holder) := goodIn_app (goodIn_of _ (by decide +kernel)) ggL_law_X7_holder
set_option maxRecDepth 20000 in
theorem ggL_law_L_near : GoodIn wsL_law wsL_near := goodIn_ca (goodIn_r _ [563, 151, 564, 565, 566, 2, 567, 32, 256, 257, 258, 160, 161, 391, 392, 393, 394, 34, 568, 431, 432, 31, 433, 95, 96, 267, 178, 179, 41, 180, 49, 862, 863, 864, 865, 866, 867, 868, 915, 916, 917, 918, 919, 920, 921] (by decide +kernel) (by decide +kernel)) (goodIn_sub (fun _ h => List.mem_append_left _ (List.mem_append_right _ h)) (by decide +kernel))
set_option maxRecDepth 20000 in
theorem gL_law_L_near : GoodIn wsL_law (va_wsS RL 152 yL_near wsL_near) := goodIn_app (goodIn_of _ (by decide +kernel)) ggL_law_L_near
set_option maxRecDepth 20000 in
theorem ggL_law_X7_near : GoodIn wsL_law wsX7_near := goodIn_r _ [572, 143, 294, 287, 288, 5, 289, 192, 193, 194, 513, 514, 515, 516, 118, 119, 242, 243, 244, 245, 869, 870, 871, 872, 873, 874, 875, 876, 877, 878, 879, 880, 881, 882, 883, 884, 885, 886, 887, 888, 889, 890, 891, 892, 893, 894] (by decide +kernel) (by decide +kernel)
set_option maxRecDepth 20000 in
theorem gL_law_X7_near : GoodIn wsL_law (wsV RL 154 RX7 yX7_near wsX7_near) := goodIn_app (goodIn_of _ (by decide +kernel)) ggL_law_X7_near
set_option maxRecDepth 20000 in
theorem ggL_law_L_blots : GoodIn wsL_law wsL_blots := goodIn_ca (goodIn_r _ [575, 151, 576, 577, 578, 2, 579, 32, 256, 257, 258, 160, 161, 580, 581, 582, 31, 583, 96, 267, 178, 179, 41, 180, 49, 862, 863, 864, 865, 866, 867, 868, 915, 916, 917, 918, 919, 920, 921] (by decide +kernel) (by decide +kernel)) (goodIn_sub (fun _ h => List.mem_append_left _ (List.mem_append_right _ h)) (by decide +kernel))
set_option maxRecDepth 20000 in
theorem gL_law_L_blots : GoodIn wsL_law (va_wsS RL 155 yL_blots wsL_blots) := goodIn_app (goodIn_of _ (by decide +kernel)) ggL_law_L_blots
set_option maxRecDepth 20000 in
theorem ggL_law_X7_blots : GoodIn wsL_law wsX7_blots := goodIn_r _ [587, 143, 119, 287, 288, 5, 289, 192, 193, 194, 242, 243, 244, 245, 869, 870, 871, 872, 873, 874, 875, 876, 877, 878, 879, 880, 881, 882, 883, 884, 885, 886, 887, 888, 889, 890, 891, 892, 893, 894] (by decide +kernel) (by decide +kernel)
set_option maxRecDepth 20000 in
theorem gL_law_X7_blots : GoodIn wsL_law (wsV RL 157 RX7 yX7_blots wsX7_blots) := goodIn_app (goodIn_of _ (by decide +kernel)) ggL_law_X7_blots
