set_option maxRecDepth 20000 in
theorem ggL_law_X6_init : GoodIn wsL_law wsX6_init := goodIn_r _ [5, 6, 7, 8, 9, 10, 11, 12, 13, 14, 15, 16, 17, 18, 19, 20, 21, 22, 23, 24, 25, 26, 27, 28, 29, 30, 31, 32, 33, 34, 35, 36, 37, 38, 39, 40, 41, 42, 43, 44, 45, 46, 47, 48, 49, 50, 51, 52, 53, 54, 55, 56, 57, 58, 59, 60, 61, 62, 63, 64, 65, 66, 67, 68, 69, 70, 71, 72, 73, 74, 75, 76, 77, 78, 79, 80, 81, 82, 83, 84, 85, 86, 87, 88, 89, 90, 91, 92, 93, 94, 95, 96, 97, 98, 511, 512, 504, 505, 506, 507, 508, 509, 510, 513, 514, 515, 516, 517, 518, 519, 520, 521, 522, 523, 524, 525, 526, 527, 528, 529, 530, 531, 532, 533, 534, 535, 536, 537] (by decide +kernel) (by decide +kernel)
set_option maxRecDepth 20000 in
theorem gL_law_X6_init : GoodIn wsL_law (wsX6_init) := ggL_law_X6_init
set_option maxRecDepth 20000 in
theorem ggL_law_L_cell : GoodIn wsL_law wsL_cell := goodIn_r _ [102] (by decide +kernel) (by decide +kernel)
set_option maxRecDepth 20000 in
theorem gL_law_L_cell : GoodIn wsL_law (va_wsS RL 72 yL_cell wsL_cell) := goodIn_app (goodIn_of _ (by decide +kernel)) ggL_law_L_cell
set_option maxRecDepth 20000 in
theorem ggL_law_L_low : GoodIn wsL_law wsL_low := goodIn_r _ [105, 106] (by decide +kernel) (by decide +kernel)
set_option maxRecDepth 20000 in
theorem gL_law_L_low : GoodIn wsL_law (va_wsS RL 76 yL_low wsL_low) := goodIn_app (goodIn_of _ (by decide +kernel)) ggL_law_L_low
set_option maxRecDepth 20000 in
theorem ggL_law_L_awake : GoodIn wsL_law wsL_awake := goodIn_ca (goodIn_r _ [109, 110, 111, 112, 2, 113, 28, 30, 114, 115, 116, 117, 118, 119, 120, 121, 27, 122, 93, 123, 124, 125, 37, 126, 45, 504, 505, 506, 507, 508, 509, 510, 531, 532, 533, 534, 535, 536, 537] (by decide +kernel) (by decide +kernel)) (goodIn_sub (fun _ h => List.mem_append_left _ (List.mem_append_left _ (List.mem_append_right _ h))) (by decide +kernel))
set_option maxRecDepth 20000 in
theorem gL_law_L_awake : GoodIn wsL_law (va_wsS RL 65 yL_awake wsL_awake) := goodIn_app (goodIn_of _ (by decide +kernel)) ggL_law_L_awake
set_option maxRecDepth 20000 in
theorem ggL_law_X6_versions : GoodIn wsL_law wsX6_versions := goodIn_r _ [130, 29, 504, 505, 506, 507, 508, 509, 510] (by decide +kernel) (by decide +kernel)
set_option maxRecDepth 20000 in
theorem gL_law_X6_versions : GoodIn wsL_law (wsV RL 43 RX6 yX6_versions wsX6_versions) := goodIn_app (goodIn_of _ (by decide +kernel)) ggL_law_X6_versions
set_option maxRecDepth 20000 in
theorem ggL_law_X6_build : GoodIn wsL_law wsX6_build := goodIn_ca (goodIn_r _ [134, 135, 136, 29, 504, 505, 506, 507, 508, 509, 510] (by decide +kernel) (by decide +kernel)) (goodIn_sub (fun _ h => List.mem_append_left _ (List.mem_append_right _ h)) (by decide +kernel))
set_option maxRecDepth 20000 in
theorem gL_law_X6_build : GoodIn wsL_law (wsV RL 80 RX6 yX6_build wsX6_build) := goodIn_app (goodIn_of _ (by decide +kernel)) ggL_law_X6_build
set_option maxRecDepth 20000 in
theorem ggL_law_X6_defect : GoodIn wsL_law wsX6_defect := goodIn_ca (goodIn_ca (goodIn_r _ [140, 135, 136, 16, 141, 142, 143, 2, 144, 117, 118, 29, 145, 146, 147, 148, 149, 150, 151, 152, 153, 15, 154, 58, 155, 156, 157, 158, 55, 56, 57, 159, 47, 48, 37, 49, 45, 160, 124, 125, 126, 161, 162, 504, 505, 506, 507, 508, 509, 510, 513, 514, 515, 516, 537] (by decide +kernel) (by decide +kernel)) (goodIn_sub (fun _ h => List.mem_append_left _ (List.mem_append_right _ h)) (by decide +kernel))) (goodIn_sub (fun _ h => List.mem_append_left _ (List.mem_append_left _ (List.mem_append_right _ h))) (by decide +kernel))
set_option maxRecDepth 20000 in
theorem gL_law_X6_defect : GoodIn wsL_law (wsV RL 83 RX6 yX6_defect wsX6_defect) := goodIn_app (goodIn_of _ (by decide +kernel)) ggL_law_X6_defect
set_option maxRecDepth 20000 in
theorem ggL_law_X6_need : GoodIn wsL_law wsX6_need := goodIn_ca (goodIn_ca (goodIn_ca (goodIn_r _ [166, 167, 168, 135, 136, 12, 145, 146, 2, 147, 117, 118, 148, 149, 150, 169, 170, 171, 11, 172, 39, 173, 124, 125, 37, 126, 45, 174, 175, 176, 177, 178, 179, 38, 161, 162, 46, 47, 48, 49, 180, 181, 182, 183, 184, 185, 186, 187, 188, 189, 190, 191, 192, 193, 194, 504, 505, 506, 507, 508, 509, 510, 511, 512, 537] (by decide +kernel) (by decide +kernel)) (goodIn_sub (fun _ h => List.mem_append_right _ h) (by decide +kernel))) (goodIn_sub (fun _ h => List.mem_append_left _ (List.mem_append_right _ h)) (by decide +kernel))) (goodIn_sub (fun _ h => List.mem_append_left _ (List.mem_append_left _ (List.mem_append_right _ h))) (by decide +kernel))
set_option maxRecDepth 20000 in
theorem gL_law_X6_need : GoodIn wsL_law (wsV RL 87 RX6 yX6_need wsX6_need) := goodIn_app (goodIn_of _ (by decide +kernel)) ggL_law_X6_need
set_option maxRecDepth 20000 in
theorem ggL_law_X6_level : GoodIn wsL_law wsX6_level := goodIn_ca (goodIn_r _ [198, 20, 145, 146, 2, 147, 117, 118, 148, 149, 150, 199, 200, 201, 19, 202, 70, 68, 203, 124, 125, 37, 126, 45, 504, 505, 506, 507, 508, 509, 510, 517, 518, 519, 520, 521, 522, 523, 537] (by decide +kernel) (by decide +kernel)) (goodIn_sub (fun _ h => List.mem_append_left _ (List.mem_append_left _ (List.mem_append_right _ h))) (by decide +kernel))
set_option maxRecDepth 20000 in
theorem gL_law_X6_level : GoodIn wsL_law (wsV RL 90 RX6 yX6_level wsX6_level) := goodIn_app (goodIn_of _ (by decide +kernel)) ggL_law_X6_level
set_option maxRecDepth 20000 in
theorem ggL_law_X6_turn : GoodIn wsL_law wsX6_turn := goodIn_ca (goodIn_ca (goodIn_ca (goodIn_r _ [207, 167, 168, 135, 136, 20, 30, 114, 115, 2, 116, 117, 118, 145, 146, 147, 148, 149, 150, 208, 209, 210, 211, 28, 119, 120, 121, 27, 122, 93, 123, 124, 125, 37, 126, 45, 212, 213, 214, 19, 215, 71, 199, 200, 201, 202, 70, 68, 203, 216, 217, 218, 219, 65, 66, 67, 69, 220, 47, 48, 49, 504, 505, 506, 507, 508, 509, 510, 531, 532, 533, 534, 535, 536, 537, 517, 518, 519, 520, 521, 522, 523] (by decide +kernel) (by decide +kernel)) (goodIn_sub (fun _ h => List.mem_append_right _ h) (by decide +kernel))) (goodIn_sub (fun _ h => List.mem_append_left _ (List.mem_append_right _ h)) (by decide +kernel))) (goodIn_sub (fun _ h => List.mem_append_left _ (List.mem_append_left _ (List.mem_append_right _ h))) (by decide +kernel))
set_option maxRecDepth 20000 in
theorem gL_law_X6_turn : GoodIn wsL_law (wsV RL 93 RX6 yX6_turn wsX6_turn) := goodIn_app (goodIn_of _ (by decide +kernel)) ggL_law_X6_turn
set_option maxRecDepth 20000 in
theorem ggL_law_X6_change : GoodIn wsL_law wsX6_change := goodIn_ca (goodIn_r _ [224, 20, 225, 226, 227, 2, 228, 117, 118, 212, 213, 214, 19, 215, 71, 229, 230, 231, 232, 67, 203, 124, 125, 37, 126, 45, 233, 234, 235, 236, 65, 237, 238, 239, 240, 68, 148, 149, 150, 504, 505, 506, 507, 508, 509, 510, 517, 518, 519, 520, 521, 522, 523, 537] (by decide +kernel) (by decide +kernel)) (goodIn_sub (fun _ h => List.mem_append_left _ (List.mem_append_left _ (List.mem_append_right _ h))) (by decide +kernel))
set_option maxRecDepth 20000 in
theorem gL_law_X6_change : GoodIn wsL_law (wsV RL 97 RX6 yX6_change wsX6_change) := goodIn_app (goodIn_of _ (by decide +kernel)) ggL_law_X6_change
set_option maxRecDepth 20000 in
theorem ggL_law_X6_rollable : GoodIn wsL_law wsX6_rollable := goodIn_ca (goodIn_r _ [244, 29, 245, 246, 2, 247, 117, 118, 248, 249, 250, 251, 20, 252, 253, 254, 199, 200, 201, 19, 202, 70, 68, 203, 124, 125, 37, 126, 45, 255, 256, 257, 258, 30, 24, 259, 260, 261, 262, 66, 263, 264, 265, 23, 266, 83, 267, 504, 505, 506, 507, 508, 509, 510, 517, 518, 519, 520, 521, 522, 523, 537, 524, 525, 526, 527, 528, 529, 530] (by decide +kernel) (by decide +kernel)) (goodIn_sub (fun _ h => List.mem_append_left _ (List.mem_append_left _ (List.mem_append_right _ h))) (by decide +kernel))
set_option maxRecDepth 20000 in
theorem gL_law_X6_rollable : GoodIn wsL_law (wsV RL 37 RX6 yX6_rollable wsX6_rollable) := goodIn_app (goodIn_of _ (by decide +kernel)) ggL_law_X6_rollable
set_option maxRecDepth 20000 in
theorem ggL_law_X6_roll : GoodIn wsL_law wsX6_roll := goodIn_ca (goodIn_ca (goodIn_r _ [271, 135, 136, 20, 30, 114, 115, 2, 116, 117, 118, 245, 246, 247, 141, 142, 143, 144, 29, 208, 209, 210, 211, 28, 119, 120, 121, 27, 122, 93, 123, 124, 125, 37, 126, 45, 212, 213, 214, 19, 215, 71, 248, 249, 250, 251, 252, 253, 254, 199, 200, 201, 202, 70, 68, 203, 255, 256, 257, 258, 24, 259, 260, 261, 262, 66, 263, 264, 265, 23, 266, 83, 267, 216, 217, 218, 219, 65, 67, 69, 220, 47, 48, 49, 504, 505, 506, 507, 508, 509, 510, 531, 532, 533, 534, 535, 536, 537, 517, 518, 519, 520, 521, 522, 523, 524, 525, 526, 527, 528, 529, 530] (by decide +kernel) (by decide +kernel)) (goodIn_sub (fun _ h => List.mem_append_left _ (List.mem_append_right _ h)) (by decide +kernel))) (goodIn_sub (fun _ h => List.mem_append_left _ (List.mem_append_left _ (List.mem_append_right _ h))) (by decide +kernel))
set_option maxRecDepth 20000 in
theorem gL_law_X6_roll : GoodIn wsL_law (wsV RL 100 RX6 yX6_roll wsX6_roll) := goodIn_app (goodIn_of _ (by decide +kernel)) ggL_law_X6_roll
set_option maxRecDepth 20000 in
theorem ggL_law_X6_version : GoodIn wsL_law wsX6_version := goodIn_ca (goodIn_r _ [275, 245, 246, 2, 247, 117, 118, 248, 249, 250, 251, 20, 252, 253, 254, 199, 200, 201, 19, 202, 70, 68, 203, 124, 125, 37, 126, 45, 504, 505, 506, 507, 508, 509, 510, 517, 518, 519, 520, 521, 522, 523, 537] (by decide +kernel) (by decide +kernel)) (goodIn_sub (fun _ h => List.mem_append_left _ (List.mem_append_left _ (List.mem_append_right _ h))) (by decide +kernel))
set_option maxRecDepth 20000 in
theorem gL_law_X6_version : GoodIn wsL_law (wsV RL 40 RX6 yX6_version wsX6_version) := goodIn_app (goodIn_of _ (by decide +kernel)) ggL_law_X6_version
set_option maxRecDepth 20000 in
theorem ggL_law_X6_madeAt : GoodIn wsL_law wsX6_madeAt := goodIn_ca (goodIn_r _ [279, 20, 225, 226, 227, 2, 228, 117, 118, 212, 213, 214, 19, 215, 71, 280, 281, 282, 283, 66, 203, 124, 125, 37, 126, 45, 504, 505, 506, 507, 508, 509, 510, 517, 518, 519, 520, 521, 522, 523, 537] (by decide +kernel) (by decide +kernel)) (goodIn_sub (fun _ h => List.mem_append_left _ (List.mem_append_left _ (List.mem_append_right _ h))) (by decide +kernel))
set_option maxRecDepth 20000 in
theorem gL_law_X6_madeAt : GoodIn wsL_law (wsV RL 103 RX6 yX6_madeAt wsX6_madeAt) := goodIn_app (goodIn_of _ (by decide +kernel)) ggL_law_X6_madeAt
set_option maxRecDepth 20000 in
theorem ggL_law_X6_time : GoodIn wsL_law wsX6_time := goodIn_r _ [287, 30, 504, 505, 506, 507, 508, 509, 510] (by decide +kernel) (by decide +kernel)
set_option maxRecDepth 20000 in
theorem gL_law_X6_time : GoodIn wsL_law (wsV RL 47 RX6 yX6_time wsX6_time) := goodIn_app (goodIn_of _ (by decide +kernel)) ggL_law_X6_time
set_option maxRecDepth 20000 in
theorem ggL_law_X6_revert : GoodIn wsL_law wsX6_revert := goodIn_ca (goodIn_ca (goodIn_r _ [291, 135, 136, 20, 30, 114, 115, 2, 116, 117, 118, 225, 226, 227, 228, 212, 213, 214, 19, 215, 71, 208, 209, 210, 211, 28, 119, 120, 121, 27, 122, 93, 123, 124, 125, 37, 126, 45, 229, 230, 231, 232, 67, 203, 292, 293, 294, 295, 70, 296, 297, 298, 299, 69, 68, 216, 217, 218, 219, 65, 66, 220, 47, 48, 49, 504, 505, 506, 507, 508, 509, 510, 517, 518, 519, 520, 521, 522, 523, 531, 532, 533, 534, 535, 536, 537] (by decide +kernel) (by decide +kernel)) (goodIn_sub (fun _ h => List.mem_append_left _ (List.mem_append_right _ h)) (by decide +kernel))) (goodIn_sub (fun _ h => List.mem_append_left _ (List.mem_append_left _ (List.mem_append_right _ h))) (by decide +kernel))
set_option maxRecDepth 20000 in
theorem gL_law_X6_revert : GoodIn wsL_law (wsV RL 106 RX6 yX6_revert wsX6_revert) := goodIn_app (goodIn_of _ (by decide +kernel)) ggL_law_X6_revert
set_option maxRecDepth 20000 in
theorem ggL_law_X6_holder : GoodIn wsL_law wsX6_holder := goodIn_ca (goodIn_r _ [303, 117, 118, 28, 304, 305, 306, 2, 307, 30, 308, 309, 310, 27, 311, 91, 123, 124, 125, 37, 126, 45, 504, 505, 506, 507, 508, 509, 510, 531, 532, 533, 534, 535, 536, 537] (by decide +kernel) (by decide +kernel)) (goodIn_sub (fun _ h => List.mem_append_left _ (List.mem_append_left _ (List.mem_append_right _ h))) (by decide +kernel))
set_option maxRecDepth 20000 in
theorem gL_law_X6_holder : GoodIn wsL_law (wsV RL 50 RX6 yX6_holder wsX6_holder) := goodIn_app (goodIn_of _ (by decide +kernel)) ggL_law_X6_holder
set_option maxRecDepth 20000 in
theorem ggL_law_X6_takeOver : GoodIn wsL_law wsX6_takeOver := goodIn_ca (goodIn_ca (goodIn_r _ [315, 135, 136, 28, 114, 115, 2, 116, 117, 118, 304, 305, 306, 307, 30, 308, 309, 310, 27, 311, 91, 123, 124, 125, 37, 126, 45, 316, 317, 318, 319, 98, 47, 48, 49, 504, 505, 506, 507, 508, 509, 510, 531, 532, 533, 534, 535, 536, 537] (by decide +kernel) (by decide +kernel)) (goodIn_sub (fun _ h => List.mem_append_left _ (List.mem_append_right _ h)) (by decide +kernel))) (goodIn_sub (fun _ h => List.mem_append_left _ (List.mem_append_left _ (List.mem_append_right _ h))) (by decide +kernel))
set_option maxRecDepth 20000 in
theorem gL_law_X6_takeOver : GoodIn wsL_law (wsV RL 109 RX6 yX6_takeOver wsX6_takeOver) := goodIn_app (goodIn_of _ (by decide +kernel)) ggL_law_X6_takeOver
set_option maxRecDepth 20000 in
theorem ggL_law_X6_incidents : GoodIn wsL_law wsX6_incidents := goodIn_r _ [323, 24, 324, 325, 326, 23, 327, 84, 504, 505, 506, 507, 508, 509, 510, 524, 525, 526, 527, 528, 529, 530] (by decide +kernel) (by decide +kernel)
set_option maxRecDepth 20000 in
theorem gL_law_X6_incidents : GoodIn wsL_law (wsV RL 62 RX6 yX6_incidents wsX6_incidents) := goodIn_app (goodIn_of _ (by decide +kernel)) ggL_law_X6_incidents
set_option maxRecDepth 20000 in
theorem ggL_law_X6_pass : GoodIn wsL_law wsX6_pass := goodIn_ca (goodIn_ca (goodIn_r _ [331, 167, 168, 135, 136, 30, 24, 324, 325, 326, 23, 327, 84, 332, 333, 334, 2, 335, 28, 304, 305, 306, 307, 336, 337, 338, 27, 339, 92, 91, 123, 124, 125, 37, 126, 45, 98, 47, 48, 49, 340, 341, 342, 343, 344, 345, 346, 347, 348, 349, 350, 351, 20, 352, 353, 354, 355, 16, 12, 248, 249, 250, 251, 252, 253, 254, 199, 200, 201, 19, 202, 70, 68, 203, 356, 357, 358, 359, 360, 161, 162, 361, 362, 363, 11, 364, 39, 173, 365, 366, 367, 15, 368, 55, 56, 57, 160, 369, 370, 371, 372, 83, 80, 267, 373, 374, 375, 376, 377, 378, 379, 380, 381, 292, 293, 294, 295, 148, 149, 150, 382, 383, 384, 385, 229, 230, 231, 232, 67, 296, 297, 298, 299, 69, 386, 387, 388, 389, 78, 79, 81, 233, 234, 235, 236, 65, 390, 391, 392, 393, 394, 395, 396, 397, 263, 264, 265, 266, 398, 399, 400, 401, 96, 94, 95, 93, 402, 403, 404, 405, 406, 120, 121, 122, 407, 408, 409, 410, 82, 504, 505, 506, 507, 508, 509, 510, 524, 525, 526, 527, 528, 529, 530, 531, 532, 533, 534, 535, 536, 537, 517, 518, 519, 520, 521, 522, 523, 511, 512, 513, 514, 515, 516] (by decide +kernel) (by decide +kernel)) (goodIn_sub (fun _ h => List.mem_append_right _ h) (by decide +kernel))) (goodIn_sub (fun _ h => List.mem_append_left _ (List.mem_append_right _ h)) (by decide +kernel))
set_option maxRecDepth 20000 in
theorem gL_law_X6_pass : GoodIn wsL_law (wsV RL 112 RX6 yX6_pass wsX6_pass) := goodIn_app (goodIn_of _ (by decide +kernel)) ggL_law_X6_pass
set_option maxRecDepth 20000 in
theorem ggL_law_X6_changes : GoodIn wsL_law wsX6_changes := goodIn_r _ [414, 20, 212, 213, 214, 19, 215, 71, 504, 505, 506, 507, 508, 509, 510, 517, 518, 519, 520, 521, 522, 523] (by decide +kernel) (by decide +kernel)
set_option maxRecDepth 20000 in
theorem gL_law_X6_changes : GoodIn wsL_law (wsV RL 115 RX6 yX6_changes wsX6_changes) := goodIn_app (goodIn_of _ (by decide +kernel)) ggL_law_X6_changes
set_option maxRecDepth 20000 in
theorem ggL_law_L_isRota : GoodIn wsL_law wsL_isRota := goodIn_ca (goodIn_r _ [417, 284, 285, 286, 2, 287, 30, 300, 301, 302, 303, 117, 118, 28, 304, 305, 306, 307, 308, 309, 310, 27, 311, 91, 123, 124, 125, 37, 126, 45, 418, 419, 420, 421, 114, 115, 116, 422, 423, 424, 425, 92, 426, 427, 428, 429, 430, 345, 346, 347, 431, 432, 433, 434, 435, 403, 404, 405, 406, 120, 121, 122, 93, 320, 321, 322, 323, 24, 324, 325, 326, 23, 327, 84, 107, 108, 101, 109, 110, 111, 112, 113, 119, 504, 505, 506, 507, 508, 509, 510, 531, 532, 533, 534, 535, 536, 537, 524, 525, 526, 527, 528, 529, 530] (by decide +kernel) (by decide +kernel)) (goodIn_sub (fun _ h => List.mem_append_left _ (List.mem_append_left _ (List.mem_append_right _ h))) (by decide +kernel))
set_option maxRecDepth 20000 in
theorem gL_law_L_isRota : GoodIn wsL_law (va_wsS RL 118 yL_isRota wsL_isRota) := goodIn_app (goodIn_of _ (by decide +kernel)) ggL_law_L_isRota
set_option maxRecDepth 20000 in
theorem ggL_law_L_isRing : GoodIn wsL_law wsL_isRing := goodIn_ca (goodIn_r _ [438, 439, 440, 441, 2, 442, 245, 246, 247, 117, 118, 378, 379, 380, 381, 20, 352, 353, 354, 355, 16, 12, 248, 249, 250, 251, 252, 253, 254, 199, 200, 201, 19, 202, 70, 68, 203, 124, 125, 37, 126, 45, 356, 357, 358, 359, 360, 161, 162, 361, 362, 363, 11, 364, 39, 173, 365, 366, 367, 15, 368, 55, 56, 57, 160, 292, 293, 294, 295, 148, 149, 150, 382, 383, 384, 385, 229, 230, 231, 232, 67, 296, 297, 298, 299, 69, 443, 444, 445, 446, 24, 374, 375, 376, 23, 377, 83, 267, 447, 448, 449, 450, 212, 213, 214, 215, 71, 451, 452, 453, 454, 225, 226, 227, 228, 455, 456, 457, 458, 459, 460, 461, 462, 463, 464, 465, 466, 324, 325, 326, 327, 84, 467, 468, 469, 470, 79, 471, 472, 473, 474, 78, 475, 476, 477, 478, 479, 480, 481, 482, 80, 241, 242, 243, 244, 29, 255, 256, 257, 258, 30, 259, 260, 261, 262, 66, 263, 264, 265, 266, 272, 273, 274, 275, 127, 128, 129, 130, 504, 505, 506, 507, 508, 509, 510, 517, 518, 519, 520, 521, 522, 523, 537, 511, 512, 513, 514, 515, 516, 524, 525, 526, 527, 528, 529, 530] (by decide +kernel) (by decide +kernel)) (goodIn_sub (fun _ h => List.mem_append_left _ (List.mem_append_left _ (List.mem_append_right _ h))) (by decide +kernel))
set_option maxRecDepth 20000 in
theorem gL_law_L_isRing : GoodIn wsL_law (va_wsS RL 122 yL_isRing wsL_isRing) := goodIn_app (goodIn_of _ (by decide +kernel)) ggL_law_L_isRing
set_option maxRecDepth 20000 in
theorem ggL_law_X6_isOn : GoodIn wsL_law wsX6_isOn := goodIn_ca (goodIn_r _ [486, 12, 145, 146, 2, 147, 117, 118, 148, 149, 150, 245, 246, 247, 356, 357, 358, 359, 20, 199, 200, 201, 19, 202, 70, 68, 203, 124, 125, 37, 126, 45, 360, 161, 162, 361, 362, 363, 11, 364, 39, 173, 487, 174, 175, 504, 505, 506, 507, 508, 509, 510, 517, 518, 519, 520, 521, 522, 523, 537, 511, 512] (by decide +kernel) (by decide +kernel)) (goodIn_sub (fun _ h => List.mem_append_left _ (List.mem_append_left _ (List.mem_append_right _ h))) (by decide +kernel))
set_option maxRecDepth 20000 in
theorem gL_law_X6_isOn : GoodIn wsL_law (wsV RL 126 RX6 yX6_isOn wsX6_isOn) := goodIn_app (goodIn_of _ (by decide +kernel)) ggL_law_X6_isOn
set_option maxRecDepth 20000 in
theorem ggL_law_X6_missed : GoodIn wsL_law wsX6_missed := goodIn_r _ [491, 28, 492, 493, 494, 27, 495, 96, 504, 505, 506, 507, 508, 509, 510, 531, 532, 533, 534, 535, 536] (by decide +kernel) (by decide +kernel)
set_option maxRecDepth 20000 in
theorem gL_law_X6_missed : GoodIn wsL_law (wsV RL 129 RX6 yX6_missed wsX6_missed) := goodIn_app (goodIn_of _ (by decide +kernel)) ggL_law_X6_missed
set_option maxRecDepth 20000 in
theorem ggL_law_X6_calls : GoodIn wsL_law wsX6_calls := goodIn_ca (goodIn_r _ [499, 28, 114, 115, 2, 116, 117, 118, 500, 501, 502, 27, 503, 95, 94, 123, 124, 125, 37, 126, 45, 504, 505, 506, 507, 508, 509, 510, 531, 532, 533, 534, 535, 536, 537] (by decide +kernel) (by decide +kernel)) (goodIn_sub (fun _ h => List.mem_append_left _ (List.mem_append_left _ (List.mem_append_right _ h))) (by decide +kernel))
set_option maxRecDepth 20000 in
theorem gL_law_X6_calls : GoodIn wsL_law (wsV RL 132 RX6 yX6_calls wsX6_calls) := goodIn_app (goodIn_of _ (by decide +kernel)) ggL_law_X6_calls
theorem dL_law_0 : decode cL_law 0 = .ok (.new 9, 3) := by decide +kernel
theorem dL_law_3 : decode cL_law 3 = .ok (.dup, 1) := by decide +kernel
theorem dL_law_4 : decode cL_law 4 = .ok (.invokespecial 71, 3) := by decide +kernel
theorem dL_law_7 : decode cL_law 7 = .ok (.astore_n 1, 1) := by decide +kernel
theorem dL_law_8 : decode cL_law 8 = .ok (.iconst 0, 1) := by decide +kernel
theorem dL_law_9 : decode cL_law 9 = .ok (.istore_n 2, 1) := by decide +kernel
theorem dL_law_10 : decode cL_law 10 = .ok (.iconst 0, 1) := by decide +kernel
theorem dL_law_11 : decode cL_law 11 = .ok (.istore_n 3, 1) := by decide +kernel
theorem dL_law_12 : decode cL_law 12 = .ok (.iconst 0, 1) := by decide +kernel
theorem dL_law_13 : decode cL_law 13 = .ok (.istore 4, 2) := by decide +kernel
theorem dL_law_15 : decode cL_law 15 = .ok (.iload 4, 2) := by decide +kernel
theorem dL_law_17 : decode cL_law 17 = .ok (.bipush 60, 2) := by decide +kernel
theorem dL_law_19 : decode cL_law 19 = .ok (.if_icmp .ge 706, 3) := by decide +kernel
theorem dL_law_22 : decode cL_law 22 = .ok (.aload_n 0, 1) := by decide +kernel
theorem dL_law_23 : decode cL_law 23 = .ok (.iconst 2, 1) := by decide +kernel
theorem dL_law_24 : decode cL_law 24 = .ok (.iload 4, 2) := by decide +kernel
theorem dL_law_26 : decode cL_law 26 = .ok (.imul, 1) := by decide +kernel
theorem dL_law_27 : decode cL_law 27 = .ok (.invokestatic 72, 3) := by decide +kernel
theorem dL_law_30 : decode cL_law 30 = .ok (.istore 5, 2) := by decide +kernel
theorem dL_law_32 : decode cL_law 32 = .ok (.aload_n 0, 1) := by decide +kernel
theorem dL_law_33 : decode cL_law 33 = .ok (.iconst 2, 1) := by decide +kernel
theorem dL_law_34 : decode cL_law 34 = .ok (.iload 4, 2) := by decide +kernel
theorem dL_law_36 : decode cL_law 36 = .ok (.imul, 1) := by decide +kernel
theorem dL_law_37 : decode cL_law 37 = .ok (.iconst 1, 1) := by decide +kernel
theorem dL_law_38 : decode cL_law 38 = .ok (.iadd, 1) := by decide +kernel
theorem dL_law_39 : decode cL_law 39 = .ok (.invokestatic 72, 3) := by decide +kernel
theorem dL_law_42 : decode cL_law 42 = .ok (.istore 6, 2) := by decide +kernel
theorem dL_law_44 : decode cL_law 44 = .ok (.iload 5, 2) := by decide +kernel
theorem dL_law_46 : decode cL_law 46 = .ok (.bipush 14, 2) := by decide +kernel
theorem dL_law_48 : decode cL_law 48 = .ok (.invokestatic 76, 3) := by decide +kernel
theorem dL_law_51 : decode cL_law 51 = .ok (.istore 7, 2) := by decide +kernel
theorem dL_law_53 : decode cL_law 53 = .ok (.aload_n 1, 1) := by decide +kernel
theorem dL_law_54 : decode cL_law 54 = .ok (.iload 6, 2) := by decide +kernel
theorem dL_law_56 : decode cL_law 56 = .ok (.bipush 6, 2) := by decide +kernel
theorem dL_law_58 : decode cL_law 58 = .ok (.invokestatic 76, 3) := by decide +kernel
theorem dL_law_61 : decode cL_law 61 = .ok (.invokestatic 65, 3) := by decide +kernel
theorem dL_law_64 : decode cL_law 64 = .ok (.istore 8, 2) := by decide +kernel
theorem dL_law_66 : decode cL_law 66 = .ok (.iload 6, 2) := by decide +kernel
theorem dL_law_68 : decode cL_law 68 = .ok (.iconst 3, 1) := by decide +kernel
theorem dL_law_69 : decode cL_law 69 = .ok (.ishr, 1) := by decide +kernel
theorem dL_law_70 : decode cL_law 70 = .ok (.bipush 8, 2) := by decide +kernel
theorem dL_law_72 : decode cL_law 72 = .ok (.invokestatic 76, 3) := by decide +kernel
theorem dL_law_75 : decode cL_law 75 = .ok (.istore 9, 2) := by decide +kernel
theorem dL_law_77 : decode cL_law 77 = .ok (.iload 6, 2) := by decide +kernel
theorem dL_law_79 : decode cL_law 79 = .ok (.bipush 6, 2) := by decide +kernel
theorem dL_law_81 : decode cL_law 81 = .ok (.ishr, 1) := by decide +kernel
theorem dL_law_82 : decode cL_law 82 = .ok (.iconst 4, 1) := by decide +kernel
theorem dL_law_83 : decode cL_law 83 = .ok (.invokestatic 76, 3) := by decide +kernel
theorem dL_law_86 : decode cL_law 86 = .ok (.istore 10, 2) := by decide +kernel
theorem dL_law_88 : decode cL_law 88 = .ok (.iconst 1, 1) := by decide +kernel
theorem dL_law_89 : decode cL_law 89 = .ok (.istore 11, 2) := by decide +kernel
theorem dL_law_91 : decode cL_law 91 = .ok (.iload 7, 2) := by decide +kernel
theorem dL_law_93 : decode cL_law 93 = .ok (.ifCond .ne 35, 3) := by decide +kernel
theorem dL_law_96 : decode cL_law 96 = .ok (.aload_n 1, 1) := by decide +kernel
theorem dL_law_97 : decode cL_law 97 = .ok (.invokevirtual 43, 3) := by decide +kernel
theorem dL_law_100 : decode cL_law 100 = .ok (.bipush 20, 2) := by decide +kernel
theorem dL_law_102 : decode cL_law 102 = .ok (.if_icmp .ge 564, 3) := by decide +kernel
theorem dL_law_105 : decode cL_law 105 = .ok (.aload_n 1, 1) := by decide +kernel
theorem dL_law_106 : decode cL_law 106 = .ok (.invokevirtual 80, 3) := by decide +kernel
theorem dL_law_109 : decode cL_law 109 = .ok (.aload_n 1, 1) := by decide +kernel
theorem dL_law_110 : decode cL_law 110 = .ok (.invokevirtual 43, 3) := by decide +kernel
theorem dL_law_113 : decode cL_law 113 = .ok (.iconst 1, 1) := by decide +kernel
theorem dL_law_114 : decode cL_law 114 = .ok (.isub, 1) := by decide +kernel
theorem dL_law_115 : decode cL_law 115 = .ok (.if_icmp .ne 7, 3) := by decide +kernel
theorem dL_law_118 : decode cL_law 118 = .ok (.iconst 1, 1) := by decide +kernel
theorem dL_law_119 : decode cL_law 119 = .ok (.goto 4, 3) := by decide +kernel
theorem dL_law_122 : decode cL_law 122 = .ok (.iconst 0, 1) := by decide +kernel
theorem dL_law_123 : decode cL_law 123 = .ok (.istore 11, 2) := by decide +kernel
theorem dL_law_125 : decode cL_law 125 = .ok (.goto 541, 3) := by decide +kernel
theorem dL_law_128 : decode cL_law 128 = .ok (.iload 7, 2) := by decide +kernel
theorem dL_law_130 : decode cL_law 130 = .ok (.iconst 3, 1) := by decide +kernel
theorem dL_law_131 : decode cL_law 131 = .ok (.if_icmp .ge 70, 3) := by decide +kernel
theorem dL_law_134 : decode cL_law 134 = .ok (.iload_n 3, 1) := by decide +kernel
theorem dL_law_135 : decode cL_law 135 = .ok (.bipush 24, 2) := by decide +kernel
theorem dL_law_137 : decode cL_law 137 = .ok (.if_icmp .ge 529, 3) := by decide +kernel
theorem dL_law_140 : decode cL_law 140 = .ok (.iinc 3 1, 3) := by decide +kernel
theorem dL_law_143 : decode cL_law 143 = .ok (.aload_n 1, 1) := by decide +kernel
theorem dL_law_144 : decode cL_law 144 = .ok (.iload 6, 2) := by decide +kernel
theorem dL_law_146 : decode cL_law 146 = .ok (.bipush 8, 2) := by decide +kernel
theorem dL_law_148 : decode cL_law 148 = .ok (.ishr, 1) := by decide +kernel
theorem dL_law_149 : decode cL_law 149 = .ok (.aload_n 1, 1) := by decide +kernel
theorem dL_law_150 : decode cL_law 150 = .ok (.invokevirtual 43, 3) := by decide +kernel
theorem dL_law_153 : decode cL_law 153 = .ok (.invokestatic 76, 3) := by decide +kernel
theorem dL_law_156 : decode cL_law 156 = .ok (.iload 6, 2) := by decide +kernel
theorem dL_law_158 : decode cL_law 158 = .ok (.iconst 3, 1) := by decide +kernel
theorem dL_law_159 : decode cL_law 159 = .ok (.ishr, 1) := by decide +kernel
theorem dL_law_160 : decode cL_law 160 = .ok (.bipush 9, 2) := by decide +kernel
theorem dL_law_162 : decode cL_law 162 = .ok (.invokestatic 76, 3) := by decide +kernel
theorem dL_law_165 : decode cL_law 165 = .ok (.iconst 1, 1) := by decide +kernel
theorem dL_law_166 : decode cL_law 166 = .ok (.isub, 1) := by decide +kernel
theorem dL_law_167 : decode cL_law 167 = .ok (.iload 6, 2) := by decide +kernel
theorem dL_law_169 : decode cL_law 169 = .ok (.bipush 14, 2) := by decide +kernel
theorem dL_law_171 : decode cL_law 171 = .ok (.ishr, 1) := by decide +kernel
theorem dL_law_172 : decode cL_law 172 = .ok (.iconst 2, 1) := by decide +kernel
theorem dL_law_173 : decode cL_law 173 = .ok (.invokestatic 76, 3) := by decide +kernel
theorem dL_law_176 : decode cL_law 176 = .ok (.ifCond .ne 7, 3) := by decide +kernel
theorem dL_law_179 : decode cL_law 179 = .ok (.iconst 1, 1) := by decide +kernel
theorem dL_law_180 : decode cL_law 180 = .ok (.goto 4, 3) := by decide +kernel
theorem dL_law_183 : decode cL_law 183 = .ok (.iconst 0, 1) := by decide +kernel
theorem dL_law_184 : decode cL_law 184 = .ok (.invokevirtual 83, 3) := by decide +kernel
theorem dL_law_187 : decode cL_law 187 = .ok (.iload_n 3, 1) := by decide +kernel
theorem dL_law_188 : decode cL_law 188 = .ok (.if_icmp .ne 7, 3) := by decide +kernel
theorem dL_law_191 : decode cL_law 191 = .ok (.iconst 1, 1) := by decide +kernel
theorem dL_law_192 : decode cL_law 192 = .ok (.goto 4, 3) := by decide +kernel
theorem dL_law_195 : decode cL_law 195 = .ok (.iconst 0, 1) := by decide +kernel
theorem dL_law_196 : decode cL_law 196 = .ok (.istore 11, 2) := by decide +kernel
theorem dL_law_198 : decode cL_law 198 = .ok (.goto 468, 3) := by decide +kernel
theorem dL_law_201 : decode cL_law 201 = .ok (.iload 7, 2) := by decide +kernel
theorem dL_law_203 : decode cL_law 203 = .ok (.iconst 3, 1) := by decide +kernel
theorem dL_law_204 : decode cL_law 204 = .ok (.if_icmp .ne 62, 3) := by decide +kernel
theorem dL_law_207 : decode cL_law 207 = .ok (.iload 6, 2) := by decide +kernel
theorem dL_law_209 : decode cL_law 209 = .ok (.bipush 6, 2) := by decide +kernel
theorem dL_law_211 : decode cL_law 211 = .ok (.ishr, 1) := by decide +kernel
theorem dL_law_212 : decode cL_law 212 = .ok (.bipush 8, 2) := by decide +kernel
theorem dL_law_214 : decode cL_law 214 = .ok (.invokestatic 76, 3) := by decide +kernel
theorem dL_law_217 : decode cL_law 217 = .ok (.istore 12, 2) := by decide +kernel
theorem dL_law_219 : decode cL_law 219 = .ok (.iload 12, 2) := by decide +kernel
theorem dL_law_221 : decode cL_law 221 = .ok (.iload 9, 2) := by decide +kernel
theorem dL_law_223 : decode cL_law 223 = .ok (.if_icmp .ge 40, 3) := by decide +kernel
theorem dL_law_226 : decode cL_law 226 = .ok (.aload_n 1, 1) := by decide +kernel
