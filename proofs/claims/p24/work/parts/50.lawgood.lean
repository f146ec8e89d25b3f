set_option maxRecDepth 20000 in
theorem ggL_cave_X4_init : GoodIn wsL_cave wsX4_init := goodIn_r _ [6, 7, 8, 9, 10, 11, 12, 13, 14, 15, 16, 17, 18, 19, 20, 21, 22, 23, 24, 25, 26, 27, 28, 29, 30, 31, 32, 33, 34, 35, 36, 37, 38, 39, 40, 41, 42, 43, 44, 45, 46, 47, 48, 49, 50, 51, 52, 53, 54, 55, 56, 57, 58, 59, 60, 61, 62, 63, 64, 65, 66, 67, 68, 69, 70, 71, 72, 73, 74, 75, 76, 77, 78, 79, 151, 152, 153, 154, 155, 156, 157, 158, 159, 160, 161, 162, 163, 164, 165, 144, 145, 146, 147, 148, 149, 150, 166, 167, 168, 169, 170, 171, 172, 173, 174, 175, 176, 177, 178, 179, 180, 181, 182] (by decide +kernel) (by decide +kernel)
set_option maxRecDepth 20000 in
theorem gL_cave_X4_init : GoodIn wsL_cave (wsX4_init) := ggL_cave_X4_init
set_option maxRecDepth 20000 in
theorem ggL_cave_L_cell : GoodIn wsL_cave wsL_cell := goodIn_r _ [83, 84] (by decide +kernel) (by decide +kernel)
set_option maxRecDepth 20000 in
theorem gL_cave_L_cell : GoodIn wsL_cave (va_wsS RL 12 yL_cell wsL_cell) := goodIn_app (goodIn_of _ (by decide +kernel)) ggL_cave_L_cell
set_option maxRecDepth 20000 in
theorem ggL_cave_L_below : GoodIn wsL_cave wsL_below := goodIn_r _ [87, 88] (by decide +kernel) (by decide +kernel)
set_option maxRecDepth 20000 in
theorem gL_cave_L_below : GoodIn wsL_cave (va_wsS RL 18 yL_below wsL_below) := goodIn_app (goodIn_of _ (by decide +kernel)) ggL_cave_L_below
set_option maxRecDepth 20000 in
theorem ggL_cave_X4_addChamber : GoodIn wsL_cave wsX4_addChamber := goodIn_ca (goodIn_ca (goodIn_r _ [92, 93, 94, 13, 95, 96, 3, 97, 98, 99, 100, 101, 102, 103, 104, 105, 12, 106, 44, 31, 32, 33, 144, 145, 146, 147, 148, 149, 150, 151, 152, 153, 154, 155, 156, 157, 158, 159, 160, 161, 162, 163, 164, 165] (by decide +kernel) (by decide +kernel)) (goodIn_sub (fun _ h => List.mem_cons_of_mem _ (List.mem_append_left _ (List.mem_append_left _ (List.mem_append_right _ h)))) (by decide +kernel))) (goodIn_sub (fun _ h => List.mem_cons_of_mem _ (List.mem_append_left _ (List.mem_append_right _ h))) (by decide +kernel))
set_option maxRecDepth 20000 in
theorem gL_cave_X4_addChamber : GoodIn wsL_cave (wsV RL 22 RX4 yX4_addChamber wsX4_addChamber) := goodIn_app (goodIn_of _ (by decide +kernel)) ggL_cave_X4_addChamber
set_option maxRecDepth 20000 in
theorem ggL_cave_X4_addPassage : GoodIn wsL_cave wsX4_addPassage := goodIn_ca (goodIn_ca (goodIn_ca (goodIn_r _ [110, 93, 94, 13, 111, 112, 113, 12, 114, 44, 96, 3, 97, 115, 116, 117, 118, 119, 98, 99, 100, 101, 102, 95, 120, 121, 122, 123, 45, 39, 40, 41, 42, 124, 125, 126, 127, 36, 38, 144, 145, 146, 147, 148, 149, 150, 151, 152, 153, 154, 155, 156, 157, 158, 159, 160, 161, 162, 163, 164, 165] (by decide +kernel) (by decide +kernel)) (goodIn_sub (fun _ h => List.mem_cons_of_mem _ (List.mem_append_left _ (List.mem_append_left _ (List.mem_append_right _ h)))) (by decide +kernel))) (goodIn_sub (fun _ h => List.mem_cons_of_mem _ (List.mem_append_right _ h)) (by decide +kernel))) (goodIn_sub (fun _ h => List.mem_cons_of_mem _ (List.mem_append_left _ (List.mem_append_right _ h))) (by decide +kernel))
set_option maxRecDepth 20000 in
theorem gL_cave_X4_addPassage : GoodIn wsL_cave (wsV RL 26 RX4 yX4_addPassage wsX4_addPassage) := goodIn_app (goodIn_of _ (by decide +kernel)) ggL_cave_X4_addPassage
set_option maxRecDepth 20000 in
theorem ggL_cave_X4_setClapper : GoodIn wsL_cave wsX4_setClapper := goodIn_ca (goodIn_ca (goodIn_r _ [131, 13, 111, 112, 113, 12, 114, 44, 96, 3, 97, 115, 116, 117, 118, 119, 98, 99, 100, 101, 102, 95, 132, 133, 134, 135, 34, 35, 144, 145, 146, 147, 148, 149, 150, 151, 152, 153, 154, 155, 156, 157, 158, 159, 160, 161, 162, 163, 164, 165] (by decide +kernel) (by decide +kernel)) (goodIn_sub (fun _ h => List.mem_cons_of_mem _ (List.mem_append_right _ h)) (by decide +kernel))) (goodIn_sub (fun _ h => List.mem_cons_of_mem _ (List.mem_append_left _ (List.mem_append_right _ h))) (by decide +kernel))
set_option maxRecDepth 20000 in
theorem gL_cave_X4_setClapper : GoodIn wsL_cave (wsV RL 30 RX4 yX4_setClapper wsX4_setClapper) := goodIn_app (goodIn_of _ (by decide +kernel)) ggL_cave_X4_setClapper
set_option maxRecDepth 20000 in
theorem ggL_cave_X4_setWater : GoodIn wsL_cave wsX4_setWater := goodIn_ca (goodIn_r _ [139, 13, 95, 96, 3, 97, 98, 99, 100, 101, 102, 144, 145, 146, 147, 148, 149, 150, 151, 152, 153, 154, 155, 156, 157, 158, 159, 160, 161, 162, 163, 164, 165] (by decide +kernel) (by decide +kernel)) (goodIn_sub (fun _ h => List.mem_cons_of_mem _ (List.mem_append_left _ (List.mem_append_right _ h))) (by decide +kernel))
set_option maxRecDepth 20000 in
theorem gL_cave_X4_setWater : GoodIn wsL_cave (wsV RL 33 RX4 yX4_setWater wsX4_setWater) := goodIn_app (goodIn_of _ (by decide +kernel)) ggL_cave_X4_setWater
set_option maxRecDepth 20000 in
theorem ggL_cave_X4_setEar : GoodIn wsL_cave wsX4_setEar := goodIn_ca (goodIn_r _ [143, 23, 95, 96, 3, 97, 98, 99, 100, 101, 102, 144, 145, 146, 147, 148, 149, 150] (by decide +kernel) (by decide +kernel)) (goodIn_sub (fun _ h => List.mem_cons_of_mem _ (List.mem_append_left _ (List.mem_append_right _ h))) (by decide +kernel))
set_option maxRecDepth 20000 in
theorem gL_cave_X4_setEar : GoodIn wsL_cave (wsV RL 37 RX4 yX4_setEar wsX4_setEar) := goodIn_app (goodIn_of _ (by decide +kernel)) ggL_cave_X4_setEar
set_option maxRecDepth 20000 in
theorem ggL_law_L_cave : GoodIn wsL_law wsL_cave := goodIn_ca (goodIn_ca (goodIn_ca (goodIn_r _ [8, 9, 10, 11, 12, 13, 14, 15, 16, 17, 18, 19, 20, 21, 22, 23, 24, 25, 26, 27, 28, 29, 30, 31, 32, 33, 34, 35, 36, 37, 4, 38, 39, 40, 41, 42, 43, 44, 45, 46, 47, 48, 49, 50, 51, 52, 53, 54, 55, 56, 57, 58, 59, 60, 61, 62, 63, 64, 65, 66, 67, 68, 69, 70, 71, 72, 73, 74, 75, 76, 77, 78, 79, 80, 81, 82, 83, 84, 85, 86, 87, 88, 7, 89, 90, 91, 92, 93, 94, 95, 96, 97, 98, 99, 100, 101, 102, 103, 104, 105, 106, 107, 108, 109, 110, 111, 112, 113, 114, 115, 116, 117, 118, 119, 120, 121, 122, 123, 124, 125, 126, 127, 128, 129, 130, 131, 132, 133, 134, 135, 136, 137, 138, 139, 140, 141, 142, 143, 144, 145, 146, 147, 148, 149, 398, 399, 400, 401, 402, 403, 404, 405, 406, 407, 408, 409, 410, 411, 412, 413, 414, 415, 416, 417, 418, 419, 420, 421, 422, 423, 424, 425, 426, 427, 428, 429, 430, 431, 432, 433, 434, 435, 436] (by decide +kernel) (by decide +kernel)) (goodIn_sub (fun _ h => List.mem_append_left _ (List.mem_append_left _ (List.mem_append_right _ h))) (by decide +kernel))) (goodIn_sub (fun _ h => List.mem_append_left _ (List.mem_append_right _ h)) (by decide +kernel))) (goodIn_sub (fun _ h => List.mem_append_right _ h) (by decide +kernel))
set_option maxRecDepth 20000 in
theorem gL_law_L_cave : GoodIn wsL_law (va_wsS RL 40 yL_cave wsL_cave) := goodIn_app (goodIn_of _ (by decide +kernel)) ggL_law_L_cave
set_option maxRecDepth 20000 in
theorem ggL_law_X4_count : GoodIn wsL_law wsX4_count := goodIn_ca (goodIn_r _ [153, 101, 102, 11, 103, 121, 122, 123, 124, 125, 154, 155, 156, 157, 21, 31, 32, 33, 29, 158, 159, 160, 20, 161, 52, 162, 163, 164, 165, 39, 46, 53, 47, 166, 167, 168, 169, 51, 41, 398, 399, 400, 401, 402, 403, 404, 405, 406, 407, 408, 409, 410, 411, 412, 413, 414, 415, 416, 417, 418, 419, 427, 428, 429, 430, 431, 432, 433, 434] (by decide +kernel) (by decide +kernel)) (goodIn_sub (fun _ h => List.mem_append_right _ h) (by decide +kernel))
set_option maxRecDepth 20000 in
theorem gL_law_X4_count : GoodIn wsL_law (wsV RL 44 RX4 yX4_count wsX4_count) := goodIn_app (goodIn_of _ (by decide +kernel)) ggL_law_X4_count
set_option maxRecDepth 20000 in
theorem ggL_law_L_cell : GoodIn wsL_law wsL_cell := goodIn_r _ [89, 90] (by decide +kernel) (by decide +kernel)
set_option maxRecDepth 20000 in
theorem gL_law_L_cell : GoodIn wsL_law (va_wsS RL 12 yL_cell wsL_cell) := goodIn_app (goodIn_of _ (by decide +kernel)) ggL_law_L_cell
set_option maxRecDepth 20000 in
theorem ggL_law_L_below : GoodIn wsL_law wsL_below := goodIn_r _ [93, 94] (by decide +kernel) (by decide +kernel)
set_option maxRecDepth 20000 in
theorem gL_law_L_below : GoodIn wsL_law (va_wsS RL 18 yL_below wsL_below) := goodIn_app (goodIn_of _ (by decide +kernel)) ggL_law_L_below
set_option maxRecDepth 20000 in
theorem ggL_law_X4_setWater : GoodIn wsL_law wsX4_setWater := goodIn_ca (goodIn_r _ [145, 21, 101, 102, 11, 103, 104, 105, 106, 107, 108, 398, 399, 400, 401, 402, 403, 404, 405, 406, 407, 408, 409, 410, 411, 412, 413, 414, 415, 416, 417, 418, 419] (by decide +kernel) (by decide +kernel)) (goodIn_sub (fun _ h => List.mem_append_left _ (List.mem_append_right _ h)) (by decide +kernel))
set_option maxRecDepth 20000 in
theorem gL_law_X4_setWater : GoodIn wsL_law (wsV RL 33 RX4 yX4_setWater wsX4_setWater) := goodIn_app (goodIn_of _ (by decide +kernel)) ggL_law_X4_setWater
set_option maxRecDepth 20000 in
theorem ggL_law_X4_setBats : GoodIn wsL_law wsX4_setBats := goodIn_ca (goodIn_ca (goodIn_r _ [173, 21, 117, 118, 119, 20, 120, 51, 102, 11, 103, 121, 122, 123, 124, 125, 101, 104, 105, 106, 107, 108, 398, 399, 400, 401, 402, 403, 404, 405, 406, 407, 408, 409, 410, 411, 412, 413, 414, 415, 416, 417, 418, 419] (by decide +kernel) (by decide +kernel)) (goodIn_sub (fun _ h => List.mem_append_right _ h) (by decide +kernel))) (goodIn_sub (fun _ h => List.mem_append_left _ (List.mem_append_right _ h)) (by decide +kernel))
set_option maxRecDepth 20000 in
theorem gL_law_X4_setBats : GoodIn wsL_law (wsV RL 47 RX4 yX4_setBats wsX4_setBats) := goodIn_app (goodIn_of _ (by decide +kernel)) ggL_law_X4_setBats
set_option maxRecDepth 20000 in
theorem ggL_law_X4_setClapper : GoodIn wsL_law wsX4_setClapper := goodIn_ca (goodIn_ca (goodIn_r _ [137, 21, 117, 118, 119, 20, 120, 51, 102, 11, 103, 121, 122, 123, 124, 125, 104, 105, 106, 107, 108, 101, 138, 139, 140, 141, 41, 42, 398, 399, 400, 401, 402, 403, 404, 405, 406, 407, 408, 409, 410, 411, 412, 413, 414, 415, 416, 417, 418, 419] (by decide +kernel) (by decide +kernel)) (goodIn_sub (fun _ h => List.mem_append_right _ h) (by decide +kernel))) (goodIn_sub (fun _ h => List.mem_append_left _ (List.mem_append_right _ h)) (by decide +kernel))
set_option maxRecDepth 20000 in
theorem gL_law_X4_setClapper : GoodIn wsL_law (wsV RL 30 RX4 yX4_setClapper wsX4_setClapper) := goodIn_app (goodIn_of _ (by decide +kernel)) ggL_law_X4_setClapper
set_option maxRecDepth 20000 in
theorem ggL_law_X4_setEar : GoodIn wsL_law wsX4_setEar := goodIn_ca (goodIn_r _ [149, 31, 101, 102, 11, 103, 104, 105, 106, 107, 108, 398, 399, 400, 401, 402, 403, 404] (by decide +kernel) (by decide +kernel)) (goodIn_sub (fun _ h => List.mem_append_left _ (List.mem_append_right _ h)) (by decide +kernel))
set_option maxRecDepth 20000 in
theorem gL_law_X4_setEar : GoodIn wsL_law (wsV RL 37 RX4 yX4_setEar wsX4_setEar) := goodIn_app (goodIn_of _ (by decide +kernel)) ggL_law_X4_setEar
set_option maxRecDepth 20000 in
theorem ggL_law_L_word : GoodIn wsL_law wsL_word := goodIn_r _ [176, 91, 92, 7, 93, 94] (by decide +kernel) (by decide +kernel)
set_option maxRecDepth 20000 in
theorem gL_law_L_word : GoodIn wsL_law (va_wsS RL 50 yL_word wsL_word) := goodIn_app (goodIn_of _ (by decide +kernel)) ggL_law_L_word
set_option maxRecDepth 20000 in
theorem ggL_law_X4_digest : GoodIn wsL_law wsX4_digest := goodIn_r _ [180, 181, 182, 21, 29, 154, 155, 156, 11, 157, 31, 32, 33, 158, 159, 160, 20, 161, 52, 162, 163, 164, 165, 39, 46, 53, 47, 166, 167, 168, 169, 51, 41, 183, 184, 185, 186, 38, 40, 42, 43, 187, 188, 189, 190, 45, 191, 192, 193, 194, 48, 49, 195, 196, 197, 28, 198, 79, 199, 200, 201, 202, 81, 85, 398, 399, 400, 401, 402, 403, 404, 405, 406, 407, 408, 409, 410, 411, 412, 413, 414, 415, 416, 417, 418, 419, 427, 428, 429, 430, 431, 432, 433, 434] (by decide +kernel) (by decide +kernel)
set_option maxRecDepth 20000 in
theorem gL_law_X4_digest : GoodIn wsL_law (wsV RL 53 RX4 yX4_digest wsX4_digest) := goodIn_app (goodIn_of _ (by decide +kernel)) ggL_law_X4_digest
set_option maxRecDepth 20000 in
theorem ggL_law_X4_would : GoodIn wsL_law wsX4_would := goodIn_ca (goodIn_ca (goodIn_r _ [206, 25, 31, 30, 207, 208, 11, 209, 210, 211, 212, 213, 101, 102, 103, 104, 105, 106, 107, 108, 121, 122, 123, 124, 125, 214, 215, 216, 24, 217, 62, 218, 219, 220, 221, 222, 28, 223, 81, 82, 83, 84, 85, 86, 80, 224, 225, 226, 227, 228, 229, 230, 231, 67, 68, 232, 233, 234, 61, 235, 74, 236, 237, 238, 239, 63, 64, 66, 240, 241, 242, 243, 244, 245, 246, 73, 247, 248, 249, 250, 251, 252, 253, 254, 255, 256, 257, 258, 259, 260, 261, 262, 58, 263, 264, 265, 266, 267, 268, 269, 270, 271, 272, 273, 274, 275, 276, 277, 278, 118, 119, 20, 120, 51, 279, 280, 281, 282, 79, 283, 284, 285, 286, 287, 288, 289, 290, 40, 291, 292, 293, 294, 295, 296, 297, 298, 299, 163, 164, 165, 39, 46, 53, 47, 300, 301, 302, 303, 304, 305, 306, 307, 308, 309, 310, 311, 49, 312, 313, 314, 315, 38, 199, 200, 201, 202, 398, 399, 400, 401, 402, 403, 404, 427, 428, 429, 430, 431, 432, 433, 434, 420, 421, 422, 423, 424, 425, 426, 435, 436, 405, 406, 407, 408, 409, 410, 411, 412, 413, 414, 415, 416, 417, 418, 419] (by decide +kernel) (by decide +kernel)) (goodIn_sub (fun _ h => List.mem_append_left _ (List.mem_append_right _ h)) (by decide +kernel))) (goodIn_sub (fun _ h => List.mem_append_right _ h) (by decide +kernel))
set_option maxRecDepth 20000 in
theorem gL_law_X4_would : GoodIn wsL_law (wsV RL 57 RX4 yX4_would wsX4_would) := goodIn_app (goodIn_of _ (by decide +kernel)) ggL_law_X4_would
set_option maxRecDepth 20000 in
theorem ggL_law_X4_advise : GoodIn wsL_law wsX4_advise := goodIn_ca (goodIn_r _ [319, 21, 207, 208, 11, 209, 210, 211, 212, 213, 101, 102, 103, 104, 105, 106, 107, 108, 138, 139, 140, 20, 141, 41, 42, 320, 321, 322, 323, 25, 31, 30, 214, 215, 216, 24, 217, 62, 218, 219, 220, 221, 222, 28, 223, 81, 82, 83, 84, 85, 86, 80, 224, 225, 226, 227, 228, 229, 230, 231, 67, 68, 232, 233, 234, 61, 235, 74, 236, 237, 238, 239, 63, 64, 66, 240, 241, 242, 243, 244, 245, 246, 73, 247, 248, 249, 250, 251, 252, 253, 254, 255, 256, 257, 258, 259, 260, 261, 262, 58, 263, 264, 265, 266, 267, 268, 269, 270, 271, 272, 273, 274, 275, 276, 277, 278, 118, 119, 120, 51, 279, 280, 281, 282, 79, 283, 284, 285, 286, 287, 288, 289, 290, 40, 291, 292, 293, 294, 295, 296, 297, 298, 299, 163, 164, 165, 39, 46, 53, 47, 300, 301, 302, 303, 304, 305, 306, 307, 308, 309, 310, 311, 49, 312, 313, 314, 315, 38, 199, 200, 201, 202, 398, 399, 400, 401, 402, 403, 404, 405, 406, 407, 408, 409, 410, 411, 412, 413, 414, 415, 416, 417, 418, 419, 420, 421, 422, 423, 424, 425, 426, 427, 428, 429, 430, 431, 432, 433, 434, 435, 436] (by decide +kernel) (by decide +kernel)) (goodIn_sub (fun _ h => List.mem_append_left _ (List.mem_append_right _ h)) (by decide +kernel))
set_option maxRecDepth 20000 in
theorem gL_law_X4_advise : GoodIn wsL_law (wsV RL 60 RX4 yX4_advise wsX4_advise) := goodIn_app (goodIn_of _ (by decide +kernel)) ggL_law_X4_advise
set_option maxRecDepth 20000 in
theorem ggL_law_X4_quickest : GoodIn wsL_law wsX4_quickest := goodIn_ca (goodIn_r _ [327, 210, 211, 11, 212, 213, 101, 102, 103, 104, 105, 106, 107, 108, 320, 321, 322, 323, 25, 31, 30, 214, 215, 216, 24, 217, 62, 218, 219, 220, 221, 222, 28, 223, 81, 82, 83, 84, 85, 86, 80, 224, 225, 226, 227, 228, 229, 230, 231, 67, 68, 232, 233, 234, 61, 235, 74, 236, 237, 238, 239, 63, 64, 66, 240, 241, 242, 243, 244, 245, 246, 73, 247, 248, 249, 250, 251, 252, 253, 254, 255, 256, 257, 258, 259, 260, 261, 262, 58, 263, 264, 265, 266, 267, 268, 269, 270, 271, 272, 273, 274, 275, 276, 277, 278, 118, 119, 20, 120, 51, 279, 280, 281, 282, 79, 283, 284, 285, 286, 287, 288, 289, 290, 40, 291, 292, 293, 294, 295, 296, 297, 298, 299, 163, 164, 165, 39, 46, 53, 47, 300, 301, 302, 303, 304, 305, 306, 307, 308, 309, 310, 311, 49, 312, 313, 314, 315, 38, 199, 200, 201, 202, 398, 399, 400, 401, 402, 403, 404, 420, 421, 422, 423, 424, 425, 426, 427, 428, 429, 430, 431, 432, 433, 434, 435, 436, 405, 406, 407, 408, 409, 410, 411, 412, 413, 414, 415, 416, 417, 418, 419] (by decide +kernel) (by decide +kernel)) (goodIn_sub (fun _ h => List.mem_append_left _ (List.mem_append_right _ h)) (by decide +kernel))
set_option maxRecDepth 20000 in
theorem gL_law_X4_quickest : GoodIn wsL_law (wsV RL 63 RX4 yX4_quickest wsX4_quickest) := goodIn_app (goodIn_of _ (by decide +kernel)) ggL_law_X4_quickest
set_option maxRecDepth 20000 in
theorem ggL_law_X4_longest : GoodIn wsL_law wsX4_longest := goodIn_ca (goodIn_r _ [331, 101, 102, 11, 103, 104, 105, 106, 107, 108, 320, 321, 322, 323, 25, 31, 30, 214, 215, 216, 24, 217, 62, 218, 219, 220, 221, 222, 28, 223, 81, 82, 83, 84, 85, 86, 80, 224, 225, 226, 227, 228, 229, 230, 231, 67, 68, 232, 233, 234, 61, 235, 74, 236, 237, 238, 239, 63, 64, 66, 240, 241, 242, 243, 244, 245, 246, 73, 247, 248, 249, 250, 251, 252, 253, 254, 255, 256, 257, 258, 259, 260, 261, 262, 58, 263, 264, 265, 266, 267, 268, 269, 270, 271, 272, 273, 274, 275, 276, 277, 278, 118, 119, 20, 120, 51, 279, 280, 281, 282, 79, 283, 284, 285, 286, 287, 288, 289, 290, 40, 291, 292, 293, 294, 295, 296, 297, 298, 299, 163, 164, 165, 39, 46, 53, 47, 300, 301, 302, 303, 304, 305, 306, 307, 308, 309, 310, 311, 49, 312, 313, 314, 315, 38, 199, 200, 201, 202, 398, 399, 400, 401, 402, 403, 404, 420, 421, 422, 423, 424, 425, 426, 427, 428, 429, 430, 431, 432, 433, 434, 435, 436, 405, 406, 407, 408, 409, 410, 411, 412, 413, 414, 415, 416, 417, 418, 419] (by decide +kernel) (by decide +kernel)) (goodIn_sub (fun _ h => List.mem_append_left _ (List.mem_append_right _ h)) (by decide +kernel))
set_option maxRecDepth 20000 in
theorem gL_law_X4_longest : GoodIn wsL_law (wsV RL 66 RX4 yX4_longest wsX4_longest) := goodIn_app (goodIn_of _ (by decide +kernel)) ggL_law_X4_longest
set_option maxRecDepth 20000 in
theorem ggL_law_X4_passage : GoodIn wsL_law wsX4_passage := goodIn_ca (goodIn_r _ [335, 21, 336, 337, 338, 20, 339, 52, 102, 11, 103, 121, 122, 123, 124, 125, 101, 191, 192, 193, 194, 46, 47, 48, 49, 162, 163, 164, 165, 39, 53, 398, 399, 400, 401, 402, 403, 404, 405, 406, 407, 408, 409, 410, 411, 412, 413, 414, 415, 416, 417, 418, 419] (by decide +kernel) (by decide +kernel)) (goodIn_sub (fun _ h => List.mem_append_right _ h) (by decide +kernel))
set_option maxRecDepth 20000 in
theorem gL_law_X4_passage : GoodIn wsL_law (wsV RL 69 RX4 yX4_passage wsX4_passage) := goodIn_app (goodIn_of _ (by decide +kernel)) ggL_law_X4_passage
set_option maxRecDepth 20000 in
theorem ggL_law_X4_way : GoodIn wsL_law wsX4_way := goodIn_ca (goodIn_r _ [343, 21, 117, 118, 119, 20, 120, 51, 102, 11, 103, 121, 122, 123, 124, 125, 344, 345, 346, 347, 50, 52, 46, 47, 48, 348, 225, 226, 227, 162, 163, 164, 165, 39, 53, 349, 350, 351, 352, 398, 399, 400, 401, 402, 403, 404, 405, 406, 407, 408, 409, 410, 411, 412, 413, 414, 415, 416, 417, 418, 419] (by decide +kernel) (by decide +kernel)) (goodIn_sub (fun _ h => List.mem_append_right _ h) (by decide +kernel))
set_option maxRecDepth 20000 in
theorem gL_law_X4_way : GoodIn wsL_law (wsV RL 77 RX4 yX4_way wsX4_way) := goodIn_app (goodIn_of _ (by decide +kernel)) ggL_law_X4_way
set_option maxRecDepth 20000 in
theorem ggL_law_X4_highest : GoodIn wsL_law wsX4_highest := goodIn_ca (goodIn_r _ [356, 21, 117, 118, 119, 20, 120, 51, 102, 11, 103, 121, 122, 123, 124, 125, 357, 358, 359, 360, 50, 52, 46, 47, 348, 225, 226, 227, 361, 362, 363, 364, 39, 365, 1, 2, 3, 366, 367, 368, 398, 399, 400, 401, 402, 403, 404, 405, 406, 407, 408, 409, 410, 411, 412, 413, 414, 415, 416, 417, 418, 419] (by decide +kernel) (by decide +kernel)) (goodIn_sub (fun _ h => List.mem_append_right _ h) (by decide +kernel))
set_option maxRecDepth 20000 in
theorem gL_law_X4_highest : GoodIn wsL_law (wsV RL 80 RX4 yX4_highest wsX4_highest) := goodIn_app (goodIn_of _ (by decide +kernel)) ggL_law_X4_highest
set_option maxRecDepth 20000 in
theorem ggL_law_X4_chamber : GoodIn wsL_law wsX4_chamber := goodIn_ca (goodIn_r _ [372, 21, 117, 118, 119, 20, 120, 51, 102, 11, 103, 121, 122, 123, 124, 125, 101, 183, 184, 185, 186, 38, 39, 40, 41, 42, 43, 187, 188, 189, 190, 45, 162, 163, 164, 165, 46, 53, 47, 398, 399, 400, 401, 402, 403, 404, 405, 406, 407, 408, 409, 410, 411, 412, 413, 414, 415, 416, 417, 418, 419] (by decide +kernel) (by decide +kernel)) (goodIn_sub (fun _ h => List.mem_append_right _ h) (by decide +kernel))
set_option maxRecDepth 20000 in
theorem gL_law_X4_chamber : GoodIn wsL_law (wsV RL 83 RX4 yX4_chamber wsX4_chamber) := goodIn_app (goodIn_of _ (by decide +kernel)) ggL_law_X4_chamber
set_option maxRecDepth 20000 in
theorem ggL_law_X4_say : GoodIn wsL_law wsX4_say := goodIn_ca (goodIn_r _ [376, 25, 31, 29, 32, 33, 207, 208, 11, 209, 210, 211, 212, 213, 101, 102, 103, 104, 105, 106, 107, 108, 214, 215, 216, 24, 217, 62, 218, 219, 220, 221, 222, 28, 223, 81, 82, 83, 84, 85, 86, 80, 224, 225, 226, 227, 228, 229, 230, 231, 67, 68, 232, 233, 234, 61, 235, 74, 236, 237, 238, 239, 63, 64, 66, 240, 241, 242, 243, 244, 245, 246, 73, 247, 248, 249, 250, 251, 252, 253, 254, 255, 256, 257, 258, 259, 260, 261, 262, 58, 263, 264, 265, 266, 267, 268, 269, 270, 271, 272, 273, 274, 275, 276, 277, 278, 118, 119, 20, 120, 51, 279, 280, 281, 282, 79, 283, 284, 285, 286, 287, 288, 289, 290, 40, 291, 292, 293, 294, 295, 296, 297, 298, 299, 163, 164, 165, 39, 46, 53, 47, 300, 301, 302, 303, 304, 305, 306, 307, 308, 309, 310, 311, 49, 312, 313, 314, 315, 38, 398, 399, 400, 401, 402, 403, 404, 427, 428, 429, 430, 431, 432, 433, 434, 420, 421, 422, 423, 424, 425, 426, 435, 436, 405, 406, 407, 408, 409, 410, 411, 412, 413, 414, 415, 416, 417, 418, 419] (by decide +kernel) (by decide +kernel)) (goodIn_sub (fun _ h => List.mem_append_left _ (List.mem_append_right _ h)) (by decide +kernel))
set_option maxRecDepth 20000 in
theorem gL_law_X4_say : GoodIn wsL_law (wsV RL 86 RX4 yX4_say wsX4_say) := goodIn_app (goodIn_of _ (by decide +kernel)) ggL_law_X4_say
set_option maxRecDepth 20000 in
theorem ggL_law_X4_heard : GoodIn wsL_law wsX4_heard := goodIn_ca (goodIn_r _ [380, 29, 101, 102, 11, 103, 121, 122, 123, 124, 125, 195, 196, 197, 28, 198, 79, 398, 399, 400, 401, 402, 403, 404, 427, 428, 429, 430, 431, 432, 433, 434] (by decide +kernel) (by decide +kernel)) (goodIn_sub (fun _ h => List.mem_append_right _ h) (by decide +kernel))
set_option maxRecDepth 20000 in
theorem gL_law_X4_heard : GoodIn wsL_law (wsV RL 89 RX4 yX4_heard wsX4_heard) := goodIn_app (goodIn_of _ (by decide +kernel)) ggL_law_X4_heard
set_option maxRecDepth 20000 in
theorem ggL_law_X4_first : GoodIn wsL_law wsX4_first := goodIn_ca (goodIn_r _ [384, 29, 101, 102, 11, 103, 121, 122, 123, 124, 125, 398, 399, 400, 401, 402, 403, 404, 427, 428, 429, 430, 431, 432, 433, 434] (by decide +kernel) (by decide +kernel)) (goodIn_sub (fun _ h => List.mem_append_right _ h) (by decide +kernel))
set_option maxRecDepth 20000 in
theorem gL_law_X4_first : GoodIn wsL_law (wsV RL 92 RX4 yX4_first wsX4_first) := goodIn_app (goodIn_of _ (by decide +kernel)) ggL_law_X4_first
set_option maxRecDepth 20000 in
theorem ggL_law_X4_inOrder : GoodIn wsL_law wsX4_inOrder := goodIn_r _ [388, 29, 199, 200, 201, 28, 202, 81, 85, 398, 399, 400, 401, 402, 403, 404, 427, 428, 429, 430, 431, 432, 433, 434] (by decide +kernel) (by decide +kernel)
set_option maxRecDepth 20000 in
theorem gL_law_X4_inOrder : GoodIn wsL_law (wsV RL 95 RX4 yX4_inOrder wsX4_inOrder) := goodIn_app (goodIn_of _ (by decide +kernel)) ggL_law_X4_inOrder
set_option maxRecDepth 20000 in
theorem ggL_law_X4_mean : GoodIn wsL_law wsX4_mean := goodIn_r _ [392, 29, 393, 394, 395, 28, 396, 83, 397, 196, 197, 198, 79, 398, 399, 400, 401, 402, 403, 404, 427, 428, 429, 430, 431, 432, 433, 434] (by decide +kernel) (by decide +kernel)
set_option maxRecDepth 20000 in
theorem gL_law_X4_mean : GoodIn wsL_law (wsV RL 99 RX4 yX4_mean wsX4_mean) := goodIn_app (goodIn_of _ (by decide +kernel)) ggL_law_X4_mean
