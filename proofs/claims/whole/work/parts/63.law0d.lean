set_option maxRecDepth 20000 in
theorem ggL_law_L_rests : GoodIn wsL_law wsL_rests := goodIn_ca (goodIn_r _ [590, 151, 591, 592, 593, 2, 594, 32, 34, 256, 257, 258, 160, 161, 263, 264, 265, 31, 266, 97, 267, 178, 179, 41, 180, 49, 862, 863, 864, 865, 866, 867, 868, 915, 916, 917, 918, 919, 920, 921] (by decide +kernel) (by decide +kernel)) (goodIn_sub (fun _ h => List.mem_append_left _ (List.mem_append_right _ h)) (by decide +kernel))
set_option maxRecDepth 20000 in
theorem gL_law_L_rests : GoodIn wsL_law (va_wsS RL 158 yL_rests wsL_rests) := goodIn_app (goodIn_of _ (by decide +kernel)) ggL_law_L_rests
set_option maxRecDepth 20000 in
theorem ggL_law_X7_rests : GoodIn wsL_law wsX7_rests := goodIn_r _ [598, 143, 287, 288, 5, 289, 192, 193, 194, 290, 291, 292, 293, 120, 294, 869, 870, 871, 872, 873, 874, 875, 876, 877, 878, 879, 880, 881, 882, 883, 884, 885, 886, 887, 888, 889, 890, 891, 892, 893, 894] (by decide +kernel) (by decide +kernel)
set_option maxRecDepth 20000 in
theorem gL_law_X7_rests : GoodIn wsL_law (wsV RL 160 RX7 yX7_rests wsX7_rests) := goodIn_app (goodIn_of _ (by decide +kernel)) ggL_law_X7_rests
set_option maxRecDepth 20000 in
theorem ggL_law_X6_onCall : GoodIn wsL_law wsX6_onCall := goodIn_r _ [602, 32, 34, 603, 493, 494, 31, 495, 95, 96, 267, 178, 179, 41, 180, 49, 496, 264, 265, 266, 97, 862, 863, 864, 865, 866, 867, 868, 915, 916, 917, 918, 919, 920, 921] (by decide +kernel) (by decide +kernel)
set_option maxRecDepth 20000 in
theorem gL_law_X6_onCall : GoodIn wsL_law (wsV RL 161 RX6 yX6_onCall wsX6_onCall) := goodIn_app (goodIn_of _ (by decide +kernel)) ggL_law_X6_onCall
set_option maxRecDepth 20000 in
theorem ggL_law_X7_onCall : GoodIn wsL_law wsX7_onCall := goodIn_r _ [607, 143, 538, 539, 540, 5, 541, 118, 294, 119, 290, 291, 292, 293, 120, 869, 870, 871, 872, 873, 874, 875, 876, 877, 878, 879, 880, 881, 882, 883, 884, 885, 886, 887, 888, 889, 890, 891, 892, 893, 894] (by decide +kernel) (by decide +kernel)
set_option maxRecDepth 20000 in
theorem gL_law_X7_onCall : GoodIn wsL_law (wsV RL 164 RX7 yX7_onCall wsX7_onCall) := goodIn_app (goodIn_of _ (by decide +kernel)) ggL_law_X7_onCall
set_option maxRecDepth 20000 in
theorem ggL_law_L_calls : GoodIn wsL_law wsL_calls := goodIn_ca (goodIn_r _ [610, 151, 611, 612, 613, 2, 614, 32, 256, 257, 258, 160, 161, 615, 616, 617, 31, 618, 99, 98, 267, 178, 179, 41, 180, 49, 862, 863, 864, 865, 866, 867, 868, 915, 916, 917, 918, 919, 920, 921] (by decide +kernel) (by decide +kernel)) (goodIn_sub (fun _ h => List.mem_append_left _ (List.mem_append_right _ h)) (by decide +kernel))
set_option maxRecDepth 20000 in
theorem gL_law_L_calls : GoodIn wsL_law (va_wsS RL 165 yL_calls wsL_calls) := goodIn_app (goodIn_of _ (by decide +kernel)) ggL_law_L_calls
set_option maxRecDepth 20000 in
theorem ggL_law_X7_calls : GoodIn wsL_law wsX7_calls := goodIn_r _ [622, 143, 122, 121, 287, 288, 5, 289, 192, 193, 194, 242, 243, 244, 245, 869, 870, 871, 872, 873, 874, 875, 876, 877, 878, 879, 880, 881, 882, 883, 884, 885, 886, 887, 888, 889, 890, 891, 892, 893, 894] (by decide +kernel) (by decide +kernel)
set_option maxRecDepth 20000 in
theorem gL_law_X7_calls : GoodIn wsL_law (wsV RL 168 RX7 yX7_calls wsX7_calls) := goodIn_app (goodIn_of _ (by decide +kernel)) ggL_law_X7_calls
set_option maxRecDepth 20000 in
theorem ggL_law_X6_missed : GoodIn wsL_law wsX6_missed := goodIn_r _ [626, 32, 627, 628, 629, 31, 630, 100, 862, 863, 864, 865, 866, 867, 868, 915, 916, 917, 918, 919, 920] (by decide +kernel) (by decide +kernel)
set_option maxRecDepth 20000 in
theorem gL_law_X6_missed : GoodIn wsL_law (wsV RL 169 RX6 yX6_missed wsX6_missed) := goodIn_app (goodIn_of _ (by decide +kernel)) ggL_law_X6_missed
set_option maxRecDepth 20000 in
theorem ggL_law_X7_missed : GoodIn wsL_law wsX7_missed := goodIn_r _ [634, 143, 537, 869, 870, 871, 872, 873, 874, 875, 876, 877, 878, 879, 880, 881, 882, 883, 884, 885, 886, 887, 888, 889, 890, 891, 892, 893, 894] (by decide +kernel) (by decide +kernel)
set_option maxRecDepth 20000 in
theorem gL_law_X7_missed : GoodIn wsL_law (wsV RL 172 RX7 yX7_missed wsX7_missed) := goodIn_app (goodIn_of _ (by decide +kernel)) ggL_law_X7_missed
set_option maxRecDepth 20000 in
theorem ggL_law_X6_versions : GoodIn wsL_law wsX6_versions := goodIn_r _ [638, 33, 862, 863, 864, 865, 866, 867, 868] (by decide +kernel) (by decide +kernel)
set_option maxRecDepth 20000 in
theorem gL_law_X6_versions : GoodIn wsL_law (wsV RL 173 RX6 yX6_versions wsX6_versions) := goodIn_app (goodIn_of _ (by decide +kernel)) ggL_law_X6_versions
