set_option maxRecDepth 20000 in
theorem ggL_law_X3_init : GoodIn wsL_law wsX3_init := goodIn_r _ [9, 10, 11, 12, 13, 14, 15, 16, 17, 18, 19, 20, 21, 22, 23, 24, 25, 26, 27, 28, 29, 30, 31, 32, 33, 34, 35, 36, 37, 38, 39, 40, 41, 42, 43, 44, 45, 46, 47, 48, 49, 527, 528, 529, 498, 499, 500, 501, 502, 503, 504, 530, 531, 532, 533, 534, 535, 536, 537] (by decide +kernel) (by decide +kernel)
set_option maxRecDepth 20000 in
theorem gL_law_X3_init : GoodIn wsL_law (wsX3_init) := ggL_law_X3_init
set_option maxRecDepth 20000 in
theorem ggL_law_X4_init : GoodIn wsL_law wsX4_init := goodIn_r _ [52, 53, 11, 12, 17, 54, 55, 56, 57, 58, 59, 60, 61, 62, 63, 64, 65, 66, 67, 68, 69, 70, 505, 506, 507, 508, 509, 510, 511, 512, 513, 514, 515, 516, 517, 518, 519, 520, 521, 522, 523, 524, 525, 526] (by decide +kernel) (by decide +kernel)
set_option maxRecDepth 20000 in
theorem gL_law_X4_init : GoodIn wsL_law (wsX4_init) := ggL_law_X4_init
set_option maxRecDepth 20000 in
theorem ggL_law_L_addRoad : GoodIn wsL_law wsL_addRoad := goodIn_ca (goodIn_ca (goodIn_r _ [74, 75, 76, 77, 78, 79, 2, 80, 81, 82, 83, 84, 29, 16, 85, 86, 87, 88, 89, 90, 15, 91, 92, 93, 94, 95, 33, 34, 96, 97, 98, 99, 100, 101, 102, 103, 104, 35, 105, 106, 107, 108, 498, 499, 500, 501, 502, 503, 504, 527, 528, 529] (by decide +kernel) (by decide +kernel)) (goodIn_sub (fun _ h => List.mem_append_left _ (List.mem_append_left _ (List.mem_append_right _ h))) (by decide +kernel))) (goodIn_sub (fun _ h => List.mem_append_left _ (List.mem_append_right _ h)) (by decide +kernel))
set_option maxRecDepth 20000 in
theorem gL_law_L_addRoad : GoodIn wsL_law (va_wsS RL 66 yL_addRoad wsL_addRoad) := goodIn_app (goodIn_of _ (by decide +kernel)) ggL_law_L_addRoad
set_option maxRecDepth 20000 in
theorem ggL_law_X4_addRoad : GoodIn wsL_law wsX4_addRoad := goodIn_r _ [112, 113, 114, 54, 115, 116, 117, 5, 118, 119, 120, 121, 122, 123, 124, 125, 505, 506, 507, 508, 509, 510, 511, 512, 513, 514, 515, 516, 517, 518, 519, 520, 521, 522, 523, 524, 525, 526] (by decide +kernel) (by decide +kernel)
set_option maxRecDepth 20000 in
theorem gL_law_X4_addRoad : GoodIn wsL_law (wsV RL 71 RX4 yX4_addRoad wsX4_addRoad) := goodIn_app (goodIn_of _ (by decide +kernel)) ggL_law_X4_addRoad
set_option maxRecDepth 20000 in
theorem ggL_law_X4_thrown : GoodIn wsL_law wsX4_thrown := goodIn_r _ [129, 113, 505, 506, 507, 508, 509, 510, 511, 512, 513, 514, 515, 516, 517, 518, 519, 520, 521, 522, 523, 524, 525, 526] (by decide +kernel) (by decide +kernel)
set_option maxRecDepth 20000 in
theorem gL_law_X4_thrown : GoodIn wsL_law (wsV RL 72 RX4 yX4_thrown wsX4_thrown) := goodIn_app (goodIn_of _ (by decide +kernel)) ggL_law_X4_thrown
set_option maxRecDepth 20000 in
theorem ggL_law_L_setDepot : GoodIn wsL_law wsL_setDepot := goodIn_ca (goodIn_ca (goodIn_r _ [132, 75, 76, 133, 134, 135, 2, 136, 81, 82, 83, 84, 29, 18, 85, 86, 87, 498, 499, 500, 501, 502, 503, 504] (by decide +kernel) (by decide +kernel)) (goodIn_sub (fun _ h => List.mem_append_left _ (List.mem_append_left _ (List.mem_append_right _ h))) (by decide +kernel))) (goodIn_sub (fun _ h => List.mem_append_left _ (List.mem_append_right _ h)) (by decide +kernel))
set_option maxRecDepth 20000 in
theorem gL_law_L_setDepot : GoodIn wsL_law (va_wsS RL 75 yL_setDepot wsL_setDepot) := goodIn_app (goodIn_of _ (by decide +kernel)) ggL_law_L_setDepot
set_option maxRecDepth 20000 in
theorem ggL_law_X4_setDepot : GoodIn wsL_law wsX4_setDepot := goodIn_r _ [140, 113, 114, 55, 119, 120, 5, 121, 116, 117, 118, 122, 123, 124, 125, 505, 506, 507, 508, 509, 510, 511, 512, 513, 514, 515, 516, 517, 518, 519, 520, 521, 522, 523, 524, 525, 526] (by decide +kernel) (by decide +kernel)
set_option maxRecDepth 20000 in
theorem gL_law_X4_setDepot : GoodIn wsL_law (wsV RL 78 RX4 yX4_setDepot wsX4_setDepot) := goodIn_app (goodIn_of _ (by decide +kernel)) ggL_law_X4_setDepot
set_option maxRecDepth 20000 in
theorem ggL_law_L_addUnit : GoodIn wsL_law wsL_addUnit := goodIn_ca (goodIn_ca (goodIn_r _ [143, 75, 76, 144, 145, 146, 2, 147, 81, 82, 83, 84, 29, 22, 85, 86, 87, 148, 149, 150, 151, 152, 153, 21, 154, 43, 155, 156, 157, 158, 40, 159, 160, 161, 162, 163, 164, 165, 166, 167, 168, 39, 99, 100, 169, 96, 97, 98, 170, 171, 172, 173, 174, 175, 176, 177, 178, 179, 180, 181, 41, 182, 183, 184, 185, 498, 499, 500, 501, 502, 503, 504, 530, 531, 532, 533, 534] (by decide +kernel) (by decide +kernel)) (goodIn_sub (fun _ h => List.mem_append_left _ (List.mem_append_left _ (List.mem_append_right _ h))) (by decide +kernel))) (goodIn_sub (fun _ h => List.mem_append_left _ (List.mem_append_right _ h)) (by decide +kernel))
set_option maxRecDepth 20000 in
theorem gL_law_L_addUnit : GoodIn wsL_law (va_wsS RL 79 yL_addUnit wsL_addUnit) := goodIn_app (goodIn_of _ (by decide +kernel)) ggL_law_L_addUnit
set_option maxRecDepth 20000 in
theorem ggL_law_X4_addUnit : GoodIn wsL_law wsX4_addUnit := goodIn_r _ [189, 113, 114, 190, 56, 57, 58, 119, 120, 5, 121, 116, 117, 118, 122, 123, 124, 125, 191, 192, 193, 194, 65, 66, 195, 196, 197, 198, 505, 506, 507, 508, 509, 510, 511, 512, 513, 514, 515, 516, 517, 518, 519, 520, 521, 522, 523, 524, 525, 526] (by decide +kernel) (by decide +kernel)
set_option maxRecDepth 20000 in
theorem gL_law_X4_addUnit : GoodIn wsL_law (wsV RL 82 RX4 yX4_addUnit wsX4_addUnit) := goodIn_app (goodIn_of _ (by decide +kernel)) ggL_law_X4_addUnit
set_option maxRecDepth 20000 in
theorem ggL_law_L_order : GoodIn wsL_law wsL_order := goodIn_ca (goodIn_ca (goodIn_r _ [201, 202, 75, 203, 204, 205, 2, 206, 81, 82, 22, 29, 207, 208, 209, 210, 211, 212, 170, 171, 172, 21, 173, 43, 85, 86, 87, 213, 214, 215, 216, 42, 159, 160, 161, 162, 163, 164, 217, 218, 219, 220, 498, 499, 500, 501, 502, 503, 504, 530, 531, 532, 533, 534] (by decide +kernel) (by decide +kernel)) (goodIn_sub (fun _ h => List.mem_append_left _ (List.mem_append_left _ (List.mem_append_right _ h))) (by decide +kernel))) (goodIn_sub (fun _ h => List.mem_append_right _ h) (by decide +kernel))
set_option maxRecDepth 20000 in
theorem gL_law_L_order : GoodIn wsL_law (va_wsS RL 83 yL_order wsL_order) := goodIn_app (goodIn_of _ (by decide +kernel)) ggL_law_L_order
set_option maxRecDepth 20000 in
theorem ggL_law_X4_order : GoodIn wsL_law wsX4_order := goodIn_r _ [224, 113, 60, 225, 226, 227, 5, 228, 190, 119, 120, 121, 122, 123, 124, 125, 505, 506, 507, 508, 509, 510, 511, 512, 513, 514, 515, 516, 517, 518, 519, 520, 521, 522, 523, 524, 525, 526] (by decide +kernel) (by decide +kernel)
set_option maxRecDepth 20000 in
theorem gL_law_X4_order : GoodIn wsL_law (wsV RL 85 RX4 yX4_order wsX4_order) := goodIn_app (goodIn_of _ (by decide +kernel)) ggL_law_X4_order
set_option maxRecDepth 20000 in
theorem ggL_law_L_play : GoodIn wsL_law wsL_play := goodIn_ca (goodIn_ca (goodIn_r _ [231, 75, 76, 232, 233, 234, 2, 235, 83, 84, 29, 23, 22, 236, 237, 238, 81, 82, 85, 86, 87, 239, 240, 241, 242, 243, 183, 184, 185, 24, 244, 245, 246, 247, 248, 249, 250, 251, 18, 16, 148, 149, 150, 151, 152, 153, 21, 154, 43, 155, 156, 157, 158, 40, 159, 160, 161, 162, 163, 164, 165, 166, 167, 168, 39, 99, 100, 98, 252, 253, 254, 15, 255, 96, 97, 92, 93, 94, 95, 33, 34, 170, 171, 172, 173, 256, 257, 169, 258, 259, 260, 261, 262, 213, 214, 215, 216, 42, 263, 264, 265, 266, 267, 268, 269, 270, 271, 272, 273, 274, 41, 275, 179, 180, 181, 182, 276, 277, 278, 279, 280, 281, 282, 283, 284, 285, 286, 287, 288, 289, 290, 291, 292, 293, 294, 295, 296, 297, 298, 498, 499, 500, 501, 502, 503, 504, 530, 531, 532, 533, 534, 527, 528, 529] (by decide +kernel) (by decide +kernel)) (goodIn_sub (fun _ h => List.mem_append_left _ (List.mem_append_right _ h)) (by decide +kernel))) (goodIn_sub (fun _ h => List.mem_append_left _ (List.mem_append_left _ (List.mem_append_right _ h))) (by decide +kernel))
set_option maxRecDepth 20000 in
theorem gL_law_L_play : GoodIn wsL_law (va_wsS RL 86 yL_play wsL_play) := goodIn_app (goodIn_of _ (by decide +kernel)) ggL_law_L_play
set_option maxRecDepth 20000 in
theorem ggL_law_X4_play : GoodIn wsL_law wsX4_play := goodIn_r _ [302, 113, 114, 61, 59, 60, 119, 120, 5, 121, 122, 123, 124, 125, 303, 304, 305, 306, 190, 67, 57, 65, 58, 66, 62, 56, 191, 192, 193, 194, 307, 308, 309, 310, 69, 55, 195, 196, 197, 198, 311, 312, 313, 314, 54, 315, 316, 317, 318, 68, 319, 320, 321, 322, 323, 324, 325, 326, 327, 328, 329, 330, 331, 332, 333, 334, 505, 506, 507, 508, 509, 510, 511, 512, 513, 514, 515, 516, 517, 518, 519, 520, 521, 522, 523, 524, 525, 526] (by decide +kernel) (by decide +kernel)
set_option maxRecDepth 20000 in
theorem gL_law_X4_play : GoodIn wsL_law (wsV RL 89 RX4 yX4_play wsX4_play) := goodIn_app (goodIn_of _ (by decide +kernel)) ggL_law_X4_play
set_option maxRecDepth 20000 in
theorem ggL_law_X3_played : GoodIn wsL_law wsX3_played := goodIn_r _ [338, 29, 498, 499, 500, 501, 502, 503, 504] (by decide +kernel) (by decide +kernel)
set_option maxRecDepth 20000 in
theorem gL_law_X3_played : GoodIn wsL_law (wsV RL 90 RX3 yX3_played wsX3_played) := goodIn_app (goodIn_of _ (by decide +kernel)) ggL_law_X3_played
set_option maxRecDepth 20000 in
theorem ggL_law_X4_played : GoodIn wsL_law wsX4_played := goodIn_r _ [342, 113, 114, 505, 506, 507, 508, 509, 510, 511, 512, 513, 514, 515, 516, 517, 518, 519, 520, 521, 522, 523, 524, 525, 526] (by decide +kernel) (by decide +kernel)
set_option maxRecDepth 20000 in
theorem gL_law_X4_played : GoodIn wsL_law (wsV RL 93 RX4 yX4_played wsX4_played) := goodIn_app (goodIn_of _ (by decide +kernel)) ggL_law_X4_played
set_option maxRecDepth 20000 in
theorem ggL_law_L_rule : GoodIn wsL_law wsL_rule := goodIn_ca (goodIn_ca (goodIn_r _ [345, 202, 75, 346, 347, 348, 2, 349, 28, 23, 22, 29, 350, 351, 352, 353, 211, 212, 354, 355, 184, 356, 85, 86, 87, 236, 237, 238, 81, 82, 357, 358, 359, 27, 360, 49, 361, 362, 363, 364, 47, 48, 365, 366, 367, 21, 368, 43, 155, 156, 157, 158, 40, 159, 160, 161, 162, 163, 164, 369, 272, 273, 274, 41, 178, 179, 180, 181, 182, 183, 185, 239, 240, 241, 242, 243, 24, 244, 245, 246, 247, 248, 249, 250, 251, 18, 16, 148, 149, 150, 151, 152, 153, 154, 165, 166, 167, 168, 39, 99, 100, 98, 252, 253, 254, 15, 255, 96, 97, 92, 93, 94, 95, 33, 34, 170, 171, 172, 173, 256, 257, 169, 258, 259, 260, 261, 262, 213, 214, 215, 216, 42, 263, 264, 265, 266, 267, 268, 269, 270, 271, 275, 276, 277, 278, 279, 280, 281, 282, 283, 284, 285, 286, 287, 288, 289, 290, 291, 292, 293, 294, 370, 371, 372, 373, 498, 499, 500, 501, 502, 503, 504, 535, 536, 537, 530, 531, 532, 533, 534, 527, 528, 529] (by decide +kernel) (by decide +kernel)) (goodIn_sub (fun _ h => List.mem_append_right _ h) (by decide +kernel))) (goodIn_sub (fun _ h => List.mem_append_left _ (List.mem_append_left _ (List.mem_append_right _ h))) (by decide +kernel))
set_option maxRecDepth 20000 in
theorem gL_law_L_rule : GoodIn wsL_law (va_wsS RL 94 yL_rule wsL_rule) := goodIn_app (goodIn_of _ (by decide +kernel)) ggL_law_L_rule
set_option maxRecDepth 20000 in
theorem ggL_law_X4_rule : GoodIn wsL_law wsX4_rule := goodIn_r _ [377, 113, 114, 63, 378, 64, 61, 119, 120, 5, 121, 122, 123, 124, 125, 379, 380, 381, 382, 190, 70, 57, 58, 303, 304, 305, 306, 67, 65, 66, 62, 56, 191, 192, 193, 194, 307, 308, 309, 310, 69, 55, 195, 196, 197, 198, 311, 312, 313, 314, 54, 315, 316, 317, 318, 59, 68, 319, 320, 321, 322, 323, 324, 325, 326, 327, 328, 329, 330, 505, 506, 507, 508, 509, 510, 511, 512, 513, 514, 515, 516, 517, 518, 519, 520, 521, 522, 523, 524, 525, 526] (by decide +kernel) (by decide +kernel)
set_option maxRecDepth 20000 in
theorem gL_law_X4_rule : GoodIn wsL_law (wsV RL 96 RX4 yX4_rule wsX4_rule) := goodIn_app (goodIn_of _ (by decide +kernel)) ggL_law_X4_rule
set_option maxRecDepth 20000 in
theorem ggL_law_L_appeal : GoodIn wsL_law wsL_appeal := goodIn_ca (goodIn_r _ [385, 76, 386, 387, 388, 2, 389, 83, 84, 28, 23, 390, 391, 392, 27, 393, 49, 47, 86, 87, 85, 394, 395, 396, 397, 48, 398, 399, 400, 401, 239, 240, 241, 242, 243, 183, 184, 185, 29, 24, 244, 245, 246, 247, 22, 248, 249, 250, 251, 18, 16, 148, 149, 150, 151, 152, 153, 21, 154, 43, 155, 156, 157, 158, 40, 159, 160, 161, 162, 163, 164, 165, 166, 167, 168, 39, 99, 100, 98, 252, 253, 254, 15, 255, 96, 97, 92, 93, 94, 95, 33, 34, 170, 171, 172, 173, 256, 257, 169, 258, 259, 260, 261, 262, 213, 214, 215, 216, 42, 263, 264, 265, 266, 267, 268, 269, 270, 271, 272, 273, 274, 41, 275, 179, 180, 181, 182, 276, 277, 278, 279, 280, 281, 282, 283, 284, 285, 286, 287, 288, 289, 290, 291, 292, 293, 294, 498, 499, 500, 501, 502, 503, 504, 535, 536, 537, 530, 531, 532, 533, 534, 527, 528, 529] (by decide +kernel) (by decide +kernel)) (goodIn_sub (fun _ h => List.mem_append_left _ (List.mem_append_right _ h)) (by decide +kernel))
set_option maxRecDepth 20000 in
theorem gL_law_L_appeal : GoodIn wsL_law (va_wsS RL 97 yL_appeal wsL_appeal) := goodIn_app (goodIn_of _ (by decide +kernel)) ggL_law_L_appeal
set_option maxRecDepth 20000 in
theorem ggL_law_X4_appeal : GoodIn wsL_law wsX4_appeal := goodIn_r _ [405, 113, 378, 63, 64, 122, 123, 124, 5, 125, 379, 380, 381, 382, 61, 190, 70, 57, 114, 58, 303, 304, 305, 306, 67, 65, 66, 62, 56, 191, 192, 193, 194, 307, 308, 309, 310, 69, 55, 195, 196, 197, 198, 311, 312, 313, 314, 54, 315, 316, 317, 318, 59, 68, 319, 320, 321, 322, 323, 324, 325, 326, 327, 328, 329, 330, 505, 506, 507, 508, 509, 510, 511, 512, 513, 514, 515, 516, 517, 518, 519, 520, 521, 522, 523, 524, 525, 526] (by decide +kernel) (by decide +kernel)
set_option maxRecDepth 20000 in
theorem gL_law_X4_appeal : GoodIn wsL_law (wsV RL 100 RX4 yX4_appeal wsX4_appeal) := goodIn_app (goodIn_of _ (by decide +kernel)) ggL_law_X4_appeal
set_option maxRecDepth 20000 in
theorem ggL_law_L_townOf : GoodIn wsL_law wsL_townOf := goodIn_ca (goodIn_r _ [408, 202, 409, 410, 411, 2, 412, 22, 29, 207, 208, 209, 210, 211, 212, 170, 171, 172, 21, 173, 43, 85, 86, 87, 257, 156, 157, 158, 40, 159, 160, 161, 162, 163, 164, 498, 499, 500, 501, 502, 503, 504, 530, 531, 532, 533, 534] (by decide +kernel) (by decide +kernel)) (goodIn_sub (fun _ h => List.mem_append_right _ h) (by decide +kernel))
set_option maxRecDepth 20000 in
theorem gL_law_L_townOf : GoodIn wsL_law (va_wsS RL 101 yL_townOf wsL_townOf) := goodIn_app (goodIn_of _ (by decide +kernel)) ggL_law_L_townOf
set_option maxRecDepth 20000 in
theorem ggL_law_X4_townOf : GoodIn wsL_law wsX4_townOf := goodIn_r _ [416, 113, 57, 114, 225, 226, 227, 5, 228, 190, 119, 120, 121, 122, 123, 124, 125, 505, 506, 507, 508, 509, 510, 511, 512, 513, 514, 515, 516, 517, 518, 519, 520, 521, 522, 523, 524, 525, 526] (by decide +kernel) (by decide +kernel)
set_option maxRecDepth 20000 in
theorem gL_law_X4_townOf : GoodIn wsL_law (wsV RL 103 RX4 yX4_townOf wsX4_townOf) := goodIn_app (goodIn_of _ (by decide +kernel)) ggL_law_X4_townOf
set_option maxRecDepth 20000 in
theorem ggL_law_L_strength : GoodIn wsL_law wsL_strength := goodIn_ca (goodIn_r _ [419, 202, 420, 421, 422, 2, 423, 22, 29, 207, 208, 209, 210, 211, 212, 170, 171, 172, 21, 173, 43, 85, 86, 87, 271, 272, 273, 274, 41, 159, 160, 161, 162, 163, 164, 498, 499, 500, 501, 502, 503, 504, 530, 531, 532, 533, 534] (by decide +kernel) (by decide +kernel)) (goodIn_sub (fun _ h => List.mem_append_right _ h) (by decide +kernel))
set_option maxRecDepth 20000 in
theorem gL_law_L_strength : GoodIn wsL_law (va_wsS RL 104 yL_strength wsL_strength) := goodIn_app (goodIn_of _ (by decide +kernel)) ggL_law_L_strength
set_option maxRecDepth 20000 in
theorem ggL_law_X4_strength : GoodIn wsL_law wsX4_strength := goodIn_r _ [427, 113, 58, 114, 225, 226, 227, 5, 228, 190, 119, 120, 121, 122, 123, 124, 125, 505, 506, 507, 508, 509, 510, 511, 512, 513, 514, 515, 516, 517, 518, 519, 520, 521, 522, 523, 524, 525, 526] (by decide +kernel) (by decide +kernel)
set_option maxRecDepth 20000 in
theorem gL_law_X4_strength : GoodIn wsL_law (wsV RL 106 RX4 yX4_strength wsX4_strength) := goodIn_app (goodIn_of _ (by decide +kernel)) ggL_law_X4_strength
set_option maxRecDepth 20000 in
theorem ggL_law_L_supply : GoodIn wsL_law wsL_supply := goodIn_ca (goodIn_ca (goodIn_r _ [430, 202, 75, 431, 432, 433, 2, 434, 22, 29, 207, 208, 209, 210, 211, 212, 170, 171, 172, 21, 173, 43, 85, 86, 87, 236, 237, 238, 81, 82, 257, 156, 157, 158, 40, 159, 160, 161, 162, 163, 164, 256, 166, 167, 168, 39, 248, 249, 250, 251, 18, 16, 148, 149, 150, 151, 152, 153, 154, 155, 165, 99, 100, 98, 252, 253, 254, 15, 255, 96, 97, 92, 93, 94, 95, 33, 34, 169, 498, 499, 500, 501, 502, 503, 504, 530, 531, 532, 533, 534, 527, 528, 529] (by decide +kernel) (by decide +kernel)) (goodIn_sub (fun _ h => List.mem_append_right _ h) (by decide +kernel))) (goodIn_sub (fun _ h => List.mem_append_left _ (List.mem_append_left _ (List.mem_append_right _ h))) (by decide +kernel))
set_option maxRecDepth 20000 in
theorem gL_law_L_supply : GoodIn wsL_law (va_wsS RL 107 yL_supply wsL_supply) := goodIn_app (goodIn_of _ (by decide +kernel)) ggL_law_L_supply
set_option maxRecDepth 20000 in
theorem ggL_law_X4_supply : GoodIn wsL_law wsX4_supply := goodIn_r _ [438, 113, 114, 225, 226, 227, 5, 228, 190, 119, 120, 121, 122, 123, 124, 125, 191, 192, 193, 194, 65, 57, 66, 58, 307, 308, 309, 310, 56, 69, 55, 195, 196, 197, 198, 311, 312, 313, 314, 54, 505, 506, 507, 508, 509, 510, 511, 512, 513, 514, 515, 516, 517, 518, 519, 520, 521, 522, 523, 524, 525, 526] (by decide +kernel) (by decide +kernel)
set_option maxRecDepth 20000 in
theorem gL_law_X4_supply : GoodIn wsL_law (wsV RL 109 RX4 yX4_supply wsX4_supply) := goodIn_app (goodIn_of _ (by decide +kernel)) ggL_law_X4_supply
set_option maxRecDepth 20000 in
theorem ggL_law_L_townAfter : GoodIn wsL_law wsL_townAfter := goodIn_ca (goodIn_r _ [441, 202, 442, 443, 444, 2, 445, 22, 207, 208, 209, 210, 211, 212, 170, 171, 172, 21, 173, 43, 85, 86, 87, 350, 351, 352, 353, 29, 354, 355, 184, 356, 257, 156, 157, 158, 40, 159, 160, 161, 162, 163, 164, 498, 499, 500, 501, 502, 503, 504, 530, 531, 532, 533, 534] (by decide +kernel) (by decide +kernel)) (goodIn_sub (fun _ h => List.mem_append_right _ h) (by decide +kernel))
set_option maxRecDepth 20000 in
theorem gL_law_L_townAfter : GoodIn wsL_law (va_wsS RL 110 yL_townAfter wsL_townAfter) := goodIn_app (goodIn_of _ (by decide +kernel)) ggL_law_L_townAfter
set_option maxRecDepth 20000 in
theorem ggL_law_X4_townAfter : GoodIn wsL_law wsX4_townAfter := goodIn_r _ [449, 113, 114, 57, 225, 226, 227, 5, 228, 190, 119, 120, 121, 122, 123, 124, 125, 505, 506, 507, 508, 509, 510, 511, 512, 513, 514, 515, 516, 517, 518, 519, 520, 521, 522, 523, 524, 525, 526] (by decide +kernel) (by decide +kernel)
set_option maxRecDepth 20000 in
theorem gL_law_X4_townAfter : GoodIn wsL_law (wsV RL 112 RX4 yX4_townAfter wsX4_townAfter) := goodIn_app (goodIn_of _ (by decide +kernel)) ggL_law_X4_townAfter
set_option maxRecDepth 20000 in
theorem ggL_law_L_reported : GoodIn wsL_law wsL_reported := goodIn_ca (goodIn_ca (goodIn_r _ [452, 75, 202, 453, 454, 455, 2, 456, 211, 212, 22, 29, 354, 355, 184, 356, 24, 457, 458, 459, 81, 82, 85, 86, 87, 207, 208, 209, 210, 170, 171, 172, 21, 173, 43, 256, 166, 167, 168, 39, 169, 96, 97, 98, 99, 100, 257, 156, 157, 158, 40, 159, 160, 161, 162, 163, 164, 498, 499, 500, 501, 502, 503, 504, 530, 531, 532, 533, 534] (by decide +kernel) (by decide +kernel)) (goodIn_sub (fun _ h => List.mem_append_right _ h) (by decide +kernel))) (goodIn_sub (fun _ h => List.mem_append_left _ (List.mem_append_left _ (List.mem_append_right _ h))) (by decide +kernel))
set_option maxRecDepth 20000 in
theorem gL_law_L_reported : GoodIn wsL_law (va_wsS RL 113 yL_reported wsL_reported) := goodIn_app (goodIn_of _ (by decide +kernel)) ggL_law_L_reported
set_option maxRecDepth 20000 in
theorem ggL_law_X4_reported : GoodIn wsL_law wsX4_reported := goodIn_r _ [463, 113, 56, 114, 62, 119, 120, 5, 121, 122, 123, 124, 125, 225, 226, 227, 228, 190, 505, 506, 507, 508, 509, 510, 511, 512, 513, 514, 515, 516, 517, 518, 519, 520, 521, 522, 523, 524, 525, 526] (by decide +kernel) (by decide +kernel)
set_option maxRecDepth 20000 in
theorem gL_law_X4_reported : GoodIn wsL_law (wsV RL 115 RX4 yX4_reported wsX4_reported) := goodIn_app (goodIn_of _ (by decide +kernel)) ggL_law_X4_reported
set_option maxRecDepth 20000 in
theorem ggL_law_L_force : GoodIn wsL_law wsL_force := goodIn_ca (goodIn_r _ [466, 75, 467, 468, 469, 2, 470, 22, 29, 457, 458, 459, 81, 82, 85, 86, 87, 170, 171, 172, 21, 173, 43, 256, 166, 167, 168, 39, 271, 272, 273, 274, 41, 159, 160, 161, 162, 163, 164, 498, 499, 500, 501, 502, 503, 504, 530, 531, 532, 533, 534] (by decide +kernel) (by decide +kernel)) (goodIn_sub (fun _ h => List.mem_append_left _ (List.mem_append_left _ (List.mem_append_right _ h))) (by decide +kernel))
set_option maxRecDepth 20000 in
theorem gL_law_L_force : GoodIn wsL_law (va_wsS RL 116 yL_force wsL_force) := goodIn_app (goodIn_of _ (by decide +kernel)) ggL_law_L_force
set_option maxRecDepth 20000 in
theorem ggL_law_X4_force : GoodIn wsL_law wsX4_force := goodIn_r _ [474, 113, 190, 56, 58, 114, 119, 120, 5, 121, 122, 123, 124, 125, 505, 506, 507, 508, 509, 510, 511, 512, 513, 514, 515, 516, 517, 518, 519, 520, 521, 522, 523, 524, 525, 526] (by decide +kernel) (by decide +kernel)
set_option maxRecDepth 20000 in
theorem gL_law_X4_force : GoodIn wsL_law (wsV RL 118 RX4 yX4_force wsX4_force) := goodIn_app (goodIn_of _ (by decide +kernel)) ggL_law_X4_force
set_option maxRecDepth 20000 in
theorem ggL_law_L_weather : GoodIn wsL_law wsL_weather := goodIn_ca (goodIn_r _ [477, 202, 478, 479, 480, 2, 481, 23, 350, 351, 352, 353, 211, 212, 29, 354, 355, 184, 356, 85, 86, 87, 498, 499, 500, 501, 502, 503, 504] (by decide +kernel) (by decide +kernel)) (goodIn_sub (fun _ h => List.mem_append_right _ h) (by decide +kernel))
set_option maxRecDepth 20000 in
theorem gL_law_L_weather : GoodIn wsL_law (va_wsS RL 119 yL_weather wsL_weather) := goodIn_app (goodIn_of _ (by decide +kernel)) ggL_law_L_weather
set_option maxRecDepth 20000 in
theorem ggL_law_X4_weather : GoodIn wsL_law wsX4_weather := goodIn_r _ [485, 113, 114, 61, 119, 120, 5, 121, 122, 123, 124, 125, 505, 506, 507, 508, 509, 510, 511, 512, 513, 514, 515, 516, 517, 518, 519, 520, 521, 522, 523, 524, 525, 526] (by decide +kernel) (by decide +kernel)
set_option maxRecDepth 20000 in
theorem gL_law_X4_weather : GoodIn wsL_law (wsV RL 121 RX4 yX4_weather wsX4_weather) := goodIn_app (goodIn_of _ (by decide +kernel)) ggL_law_X4_weather
set_option maxRecDepth 20000 in
theorem ggL_law_X3_rulings : GoodIn wsL_law wsX3_rulings := goodIn_r _ [489, 28, 490, 491, 492, 27, 493, 49, 498, 499, 500, 501, 502, 503, 504, 535, 536, 537] (by decide +kernel) (by decide +kernel)
set_option maxRecDepth 20000 in
theorem gL_law_X3_rulings : GoodIn wsL_law (wsV RL 122 RX3 yX3_rulings wsX3_rulings) := goodIn_app (goodIn_of _ (by decide +kernel)) ggL_law_X3_rulings
set_option maxRecDepth 20000 in
theorem ggL_law_X4_rulings : GoodIn wsL_law wsX4_rulings := goodIn_r _ [497, 113, 378, 505, 506, 507, 508, 509, 510, 511, 512, 513, 514, 515, 516, 517, 518, 519, 520, 521, 522, 523, 524, 525, 526] (by decide +kernel) (by decide +kernel)
set_option maxRecDepth 20000 in
theorem gL_law_X4_rulings : GoodIn wsL_law (wsV RL 125 RX4 yX4_rulings wsX4_rulings) := goodIn_app (goodIn_of _ (by decide +kernel)) ggL_law_X4_rulings
