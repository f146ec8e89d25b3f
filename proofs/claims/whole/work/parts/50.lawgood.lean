set_option maxRecDepth 20000 in
theorem ggL_law_X4_init : GoodIn wsL_law wsX4_init := goodIn_r _ [9, 10, 11, 12, 13, 14, 15, 16, 17, 18, 19, 20, 21, 22, 23, 24, 25, 26, 27, 28, 29, 30, 31, 32, 33, 34, 35, 36, 37, 38, 39, 40, 41, 42, 43, 44, 45, 46, 47, 48, 49, 50, 51, 52, 53, 54, 55, 56, 57, 58, 59, 60, 6, 61, 62, 63, 64, 65, 66, 67, 68, 69, 70, 71, 72, 73, 74, 75, 76, 77, 78, 79, 80, 81, 676, 677, 678, 679, 680, 681, 682, 683, 684, 685, 686, 687, 688, 689, 690, 659, 660, 661, 662, 663, 664, 665, 691, 692, 693, 694, 695, 696, 697, 698, 699, 700, 701, 702, 703, 704, 705, 706, 707] (by decide +kernel) (by decide +kernel)
set_option maxRecDepth 20000 in
theorem gL_law_X4_init : GoodIn wsL_law (wsX4_init) := ggL_law_X4_init
set_option maxRecDepth 20000 in
theorem ggL_law_X6_init : GoodIn wsL_law wsX6_init := goodIn_r _ [84, 85, 11, 12, 86, 87, 33, 88, 89, 90, 91, 92, 93, 94, 95, 96, 97, 98, 99, 100, 101, 102, 103, 104, 105, 106, 107, 666, 667, 668, 669, 670, 671, 672, 673, 674, 675, 708, 709, 710, 711, 712, 713, 714, 715, 716, 717, 718, 719, 720, 721, 722, 723, 724, 725, 726, 727, 728] (by decide +kernel) (by decide +kernel)
set_option maxRecDepth 20000 in
theorem gL_law_X6_init : GoodIn wsL_law (wsX6_init) := ggL_law_X6_init
set_option maxRecDepth 20000 in
theorem ggL_law_L_addChamber : GoodIn wsL_law wsL_addChamber := goodIn_ca (goodIn_ca (goodIn_r _ [111, 112, 113, 114, 115, 116, 2, 117, 118, 119, 16, 120, 121, 122, 123, 124, 125, 126, 127, 128, 129, 130, 15, 131, 47, 34, 35, 36, 659, 660, 661, 662, 663, 664, 665, 676, 677, 678, 679, 680, 681, 682, 683, 684, 685, 686, 687, 688, 689, 690] (by decide +kernel) (by decide +kernel)) (goodIn_sub (fun _ h => List.mem_append_left _ (List.mem_append_left _ (List.mem_append_right _ h))) (by decide +kernel))) (goodIn_sub (fun _ h => List.mem_append_left _ (List.mem_append_right _ h)) (by decide +kernel))
set_option maxRecDepth 20000 in
theorem gL_law_L_addChamber : GoodIn wsL_law (va_wsS RL 77 yL_addChamber wsL_addChamber) := goodIn_app (goodIn_of _ (by decide +kernel)) ggL_law_L_addChamber
set_option maxRecDepth 20000 in
theorem ggL_law_X6_addChamber : GoodIn wsL_law wsX6_addChamber := goodIn_r _ [135, 136, 86, 33, 88, 137, 138, 139, 140, 141, 142, 5, 143, 144, 145, 146, 147, 666, 667, 668, 669, 670, 671, 672, 673, 674, 675] (by decide +kernel) (by decide +kernel)
set_option maxRecDepth 20000 in
theorem gL_law_X6_addChamber : GoodIn wsL_law (wsV RL 82 RX6 yX6_addChamber wsX6_addChamber) := goodIn_app (goodIn_of _ (by decide +kernel)) ggL_law_X6_addChamber
set_option maxRecDepth 20000 in
theorem ggL_law_X6_thrown : GoodIn wsL_law wsX6_thrown := goodIn_r _ [151, 136, 666, 667, 668, 669, 670, 671, 672, 673, 674, 675] (by decide +kernel) (by decide +kernel)
set_option maxRecDepth 20000 in
theorem gL_law_X6_thrown : GoodIn wsL_law (wsV RL 83 RX6 yX6_thrown wsX6_thrown) := goodIn_app (goodIn_of _ (by decide +kernel)) ggL_law_X6_thrown
set_option maxRecDepth 20000 in
theorem ggL_law_L_addPassage : GoodIn wsL_law wsL_addPassage := goodIn_ca (goodIn_ca (goodIn_ca (goodIn_r _ [154, 155, 112, 113, 156, 157, 158, 2, 159, 118, 119, 16, 160, 161, 162, 15, 163, 47, 121, 122, 164, 165, 166, 167, 168, 123, 124, 125, 126, 127, 120, 169, 170, 171, 172, 48, 42, 43, 44, 45, 173, 174, 175, 176, 39, 41, 659, 660, 661, 662, 663, 664, 665, 676, 677, 678, 679, 680, 681, 682, 683, 684, 685, 686, 687, 688, 689, 690] (by decide +kernel) (by decide +kernel)) (goodIn_sub (fun _ h => List.mem_append_left _ (List.mem_append_left _ (List.mem_append_right _ h))) (by decide +kernel))) (goodIn_sub (fun _ h => List.mem_append_right _ h) (by decide +kernel))) (goodIn_sub (fun _ h => List.mem_append_left _ (List.mem_append_right _ h)) (by decide +kernel))
set_option maxRecDepth 20000 in
theorem gL_law_L_addPassage : GoodIn wsL_law (va_wsS RL 87 yL_addPassage wsL_addPassage) := goodIn_app (goodIn_of _ (by decide +kernel)) ggL_law_L_addPassage
set_option maxRecDepth 20000 in
theorem ggL_law_X6_addPassage : GoodIn wsL_law wsX6_addPassage := goodIn_r _ [180, 136, 181, 33, 89, 137, 138, 139, 140, 182, 183, 184, 5, 185, 86, 141, 142, 143, 144, 145, 146, 147, 666, 667, 668, 669, 670, 671, 672, 673, 674, 675] (by decide +kernel) (by decide +kernel)
set_option maxRecDepth 20000 in
theorem gL_law_X6_addPassage : GoodIn wsL_law (wsV RL 90 RX6 yX6_addPassage wsX6_addPassage) := goodIn_app (goodIn_of _ (by decide +kernel)) ggL_law_X6_addPassage
set_option maxRecDepth 20000 in
theorem ggL_law_L_setWater : GoodIn wsL_law wsL_setWater := goodIn_ca (goodIn_r _ [188, 112, 189, 190, 191, 2, 192, 16, 120, 121, 122, 123, 124, 125, 126, 127, 659, 660, 661, 662, 663, 664, 665, 676, 677, 678, 679, 680, 681, 682, 683, 684, 685, 686, 687, 688, 689, 690] (by decide +kernel) (by decide +kernel)) (goodIn_sub (fun _ h => List.mem_append_left _ (List.mem_append_right _ h)) (by decide +kernel))
set_option maxRecDepth 20000 in
theorem gL_law_L_setWater : GoodIn wsL_law (va_wsS RL 91 yL_setWater wsL_setWater) := goodIn_app (goodIn_of _ (by decide +kernel)) ggL_law_L_setWater
set_option maxRecDepth 20000 in
theorem ggL_law_X6_setWater : GoodIn wsL_law wsX6_setWater := goodIn_r _ [196, 136, 197, 141, 142, 5, 143, 144, 145, 146, 147, 666, 667, 668, 669, 670, 671, 672, 673, 674, 675] (by decide +kernel) (by decide +kernel)
set_option maxRecDepth 20000 in
theorem gL_law_X6_setWater : GoodIn wsL_law (wsV RL 94 RX6 yX6_setWater wsX6_setWater) := goodIn_app (goodIn_of _ (by decide +kernel)) ggL_law_X6_setWater
set_option maxRecDepth 20000 in
theorem ggL_law_L_setBats : GoodIn wsL_law wsL_setBats := goodIn_ca (goodIn_ca (goodIn_r _ [200, 155, 112, 201, 202, 203, 2, 204, 16, 160, 161, 162, 15, 163, 47, 121, 122, 164, 165, 166, 167, 168, 120, 123, 124, 125, 126, 127, 659, 660, 661, 662, 663, 664, 665, 676, 677, 678, 679, 680, 681, 682, 683, 684, 685, 686, 687, 688, 689, 690] (by decide +kernel) (by decide +kernel)) (goodIn_sub (fun _ h => List.mem_append_right _ h) (by decide +kernel))) (goodIn_sub (fun _ h => List.mem_append_left _ (List.mem_append_right _ h)) (by decide +kernel))
set_option maxRecDepth 20000 in
theorem gL_law_L_setBats : GoodIn wsL_law (va_wsS RL 95 yL_setBats wsL_setBats) := goodIn_app (goodIn_of _ (by decide +kernel)) ggL_law_L_setBats
set_option maxRecDepth 20000 in
theorem ggL_law_X6_setBats : GoodIn wsL_law wsX6_setBats := goodIn_r _ [208, 136, 88, 182, 183, 184, 5, 185, 86, 141, 142, 143, 144, 145, 146, 147, 666, 667, 668, 669, 670, 671, 672, 673, 674, 675] (by decide +kernel) (by decide +kernel)
set_option maxRecDepth 20000 in
theorem gL_law_X6_setBats : GoodIn wsL_law (wsV RL 98 RX6 yX6_setBats wsX6_setBats) := goodIn_app (goodIn_of _ (by decide +kernel)) ggL_law_X6_setBats
set_option maxRecDepth 20000 in
theorem ggL_law_L_setClapper : GoodIn wsL_law wsL_setClapper := goodIn_ca (goodIn_ca (goodIn_r _ [211, 155, 112, 212, 213, 214, 2, 215, 16, 160, 161, 162, 15, 163, 47, 121, 122, 164, 165, 166, 167, 168, 123, 124, 125, 126, 127, 120, 216, 217, 218, 219, 37, 38, 659, 660, 661, 662, 663, 664, 665, 676, 677, 678, 679, 680, 681, 682, 683, 684, 685, 686, 687, 688, 689, 690] (by decide +kernel) (by decide +kernel)) (goodIn_sub (fun _ h => List.mem_append_right _ h) (by decide +kernel))) (goodIn_sub (fun _ h => List.mem_append_left _ (List.mem_append_right _ h)) (by decide +kernel))
set_option maxRecDepth 20000 in
theorem gL_law_L_setClapper : GoodIn wsL_law (va_wsS RL 99 yL_setClapper wsL_setClapper) := goodIn_app (goodIn_of _ (by decide +kernel)) ggL_law_L_setClapper
set_option maxRecDepth 20000 in
theorem ggL_law_X6_setClapper : GoodIn wsL_law wsX6_setClapper := goodIn_r _ [223, 136, 88, 182, 183, 184, 5, 185, 86, 141, 142, 143, 144, 145, 146, 147, 666, 667, 668, 669, 670, 671, 672, 673, 674, 675] (by decide +kernel) (by decide +kernel)
set_option maxRecDepth 20000 in
theorem gL_law_X6_setClapper : GoodIn wsL_law (wsV RL 101 RX6 yX6_setClapper wsX6_setClapper) := goodIn_app (goodIn_of _ (by decide +kernel)) ggL_law_X6_setClapper
set_option maxRecDepth 20000 in
theorem ggL_law_L_setEar : GoodIn wsL_law wsL_setEar := goodIn_ca (goodIn_r _ [226, 112, 227, 228, 229, 2, 230, 26, 120, 121, 122, 123, 124, 125, 126, 127, 659, 660, 661, 662, 663, 664, 665] (by decide +kernel) (by decide +kernel)) (goodIn_sub (fun _ h => List.mem_append_left _ (List.mem_append_right _ h)) (by decide +kernel))
set_option maxRecDepth 20000 in
theorem gL_law_L_setEar : GoodIn wsL_law (va_wsS RL 102 yL_setEar wsL_setEar) := goodIn_app (goodIn_of _ (by decide +kernel)) ggL_law_L_setEar
set_option maxRecDepth 20000 in
theorem ggL_law_X6_setEar : GoodIn wsL_law wsX6_setEar := goodIn_r _ [234, 136, 87, 141, 142, 5, 143, 144, 145, 146, 147, 666, 667, 668, 669, 670, 671, 672, 673, 674, 675] (by decide +kernel) (by decide +kernel)
set_option maxRecDepth 20000 in
theorem gL_law_X6_setEar : GoodIn wsL_law (wsV RL 104 RX6 yX6_setEar wsX6_setEar) := goodIn_app (goodIn_of _ (by decide +kernel)) ggL_law_X6_setEar
set_option maxRecDepth 20000 in
theorem ggL_law_L_chamber : GoodIn wsL_law wsL_chamber := goodIn_ca (goodIn_r _ [237, 155, 238, 239, 240, 2, 241, 16, 160, 161, 162, 15, 163, 47, 121, 122, 164, 165, 166, 167, 168, 120, 242, 243, 244, 245, 34, 35, 36, 37, 38, 39, 246, 247, 248, 249, 41, 250, 251, 252, 253, 42, 49, 43, 659, 660, 661, 662, 663, 664, 665, 676, 677, 678, 679, 680, 681, 682, 683, 684, 685, 686, 687, 688, 689, 690] (by decide +kernel) (by decide +kernel)) (goodIn_sub (fun _ h => List.mem_append_right _ h) (by decide +kernel))
set_option maxRecDepth 20000 in
theorem gL_law_L_chamber : GoodIn wsL_law (va_wsS RL 105 yL_chamber wsL_chamber) := goodIn_app (goodIn_of _ (by decide +kernel)) ggL_law_L_chamber
set_option maxRecDepth 20000 in
theorem ggL_law_X6_chamber : GoodIn wsL_law wsX6_chamber := goodIn_r _ [257, 136, 182, 183, 184, 5, 185, 86, 141, 142, 143, 258, 259, 260, 261, 88, 181, 197, 262, 263, 264, 265, 89, 266, 267, 268, 269, 144, 145, 146, 147, 666, 667, 668, 669, 670, 671, 672, 673, 674, 675] (by decide +kernel) (by decide +kernel)
set_option maxRecDepth 20000 in
theorem gL_law_X6_chamber : GoodIn wsL_law (wsV RL 107 RX6 yX6_chamber wsX6_chamber) := goodIn_app (goodIn_of _ (by decide +kernel)) ggL_law_X6_chamber
set_option maxRecDepth 20000 in
theorem ggL_law_L_passage : GoodIn wsL_law wsL_passage := goodIn_ca (goodIn_r _ [272, 155, 273, 274, 275, 2, 276, 16, 277, 278, 279, 15, 280, 48, 121, 122, 164, 165, 166, 167, 168, 120, 281, 282, 283, 284, 42, 43, 44, 45, 250, 251, 252, 253, 35, 49, 659, 660, 661, 662, 663, 664, 665, 676, 677, 678, 679, 680, 681, 682, 683, 684, 685, 686, 687, 688, 689, 690] (by decide +kernel) (by decide +kernel)) (goodIn_sub (fun _ h => List.mem_append_right _ h) (by decide +kernel))
set_option maxRecDepth 20000 in
theorem gL_law_L_passage : GoodIn wsL_law (va_wsS RL 108 yL_passage wsL_passage) := goodIn_app (goodIn_of _ (by decide +kernel)) ggL_law_L_passage
set_option maxRecDepth 20000 in
theorem ggL_law_X6_passage : GoodIn wsL_law wsX6_passage := goodIn_r _ [288, 136, 181, 141, 142, 5, 143, 289, 290, 291, 292, 89, 197, 266, 267, 268, 269, 88, 144, 145, 146, 147, 666, 667, 668, 669, 670, 671, 672, 673, 674, 675] (by decide +kernel) (by decide +kernel)
set_option maxRecDepth 20000 in
theorem gL_law_X6_passage : GoodIn wsL_law (wsV RL 110 RX6 yX6_passage wsX6_passage) := goodIn_app (goodIn_of _ (by decide +kernel)) ggL_law_X6_passage
set_option maxRecDepth 20000 in
theorem ggL_law_L_say : GoodIn wsL_law wsL_say := goodIn_ca (goodIn_r _ [295, 112, 296, 297, 298, 2, 299, 20, 26, 24, 27, 28, 300, 301, 302, 303, 304, 305, 306, 120, 121, 122, 123, 124, 125, 126, 127, 307, 308, 309, 19, 310, 58, 311, 312, 313, 314, 315, 23, 316, 76, 77, 78, 79, 80, 81, 75, 317, 318, 319, 320, 321, 322, 323, 324, 62, 63, 325, 326, 327, 57, 328, 69, 329, 330, 331, 332, 59, 60, 61, 333, 334, 335, 336, 337, 338, 339, 68, 340, 341, 342, 343, 344, 345, 346, 347, 348, 349, 350, 351, 352, 353, 354, 355, 54, 356, 357, 358, 359, 360, 361, 362, 363, 364, 365, 366, 367, 368, 369, 370, 371, 161, 162, 15, 163, 47, 372, 373, 374, 375, 74, 376, 377, 378, 379, 380, 381, 382, 383, 36, 384, 385, 386, 387, 388, 389, 390, 391, 392, 251, 252, 253, 35, 42, 49, 43, 393, 394, 395, 396, 397, 398, 399, 400, 401, 402, 403, 404, 45, 405, 406, 407, 408, 34, 659, 660, 661, 662, 663, 664, 665, 698, 699, 700, 701, 702, 703, 704, 705, 691, 692, 693, 694, 695, 696, 697, 706, 707, 676, 677, 678, 679, 680, 681, 682, 683, 684, 685, 686, 687, 688, 689, 690] (by decide +kernel) (by decide +kernel)) (goodIn_sub (fun _ h => List.mem_append_left _ (List.mem_append_right _ h)) (by decide +kernel))
set_option maxRecDepth 20000 in
theorem gL_law_L_say : GoodIn wsL_law (va_wsS RL 111 yL_say wsL_say) := goodIn_app (goodIn_of _ (by decide +kernel)) ggL_law_L_say
set_option maxRecDepth 20000 in
theorem ggL_law_X6_say : GoodIn wsL_law wsX6_say := goodIn_r _ [412, 136, 93, 413, 414, 415, 5, 416, 417, 141, 142, 143, 144, 145, 146, 147, 418, 419, 420, 92, 421, 422, 423, 424, 425, 426, 427, 428, 429, 430, 100, 431, 432, 433, 434, 106, 107, 435, 436, 437, 438, 102, 103, 104, 105, 439, 440, 441, 442, 443, 444, 445, 446, 97, 447, 448, 449, 450, 101, 451, 452, 453, 454, 99, 455, 456, 263, 264, 265, 89, 267, 268, 269, 88, 457, 458, 459, 460, 666, 667, 668, 669, 670, 671, 672, 673, 674, 675, 708, 709, 710, 711, 712, 713, 714, 715, 716, 717, 718, 719, 720, 721, 722, 723, 724, 725, 726, 727, 728] (by decide +kernel) (by decide +kernel)
set_option maxRecDepth 20000 in
theorem gL_law_X6_say : GoodIn wsL_law (wsV RL 113 RX6 yX6_say wsX6_say) := goodIn_app (goodIn_of _ (by decide +kernel)) ggL_law_X6_say
set_option maxRecDepth 20000 in
theorem ggL_law_L_heard : GoodIn wsL_law wsL_heard := goodIn_ca (goodIn_r _ [463, 155, 464, 465, 466, 2, 467, 24, 120, 121, 122, 164, 165, 166, 167, 168, 468, 469, 470, 23, 471, 74, 659, 660, 661, 662, 663, 664, 665, 698, 699, 700, 701, 702, 703, 704, 705] (by decide +kernel) (by decide +kernel)) (goodIn_sub (fun _ h => List.mem_append_right _ h) (by decide +kernel))
set_option maxRecDepth 20000 in
theorem gL_law_L_heard : GoodIn wsL_law (va_wsS RL 114 yL_heard wsL_heard) := goodIn_app (goodIn_of _ (by decide +kernel)) ggL_law_L_heard
set_option maxRecDepth 20000 in
theorem ggL_law_X6_heard : GoodIn wsL_law wsX6_heard := goodIn_r _ [475, 136, 93, 141, 142, 5, 143, 144, 145, 146, 147, 666, 667, 668, 669, 670, 671, 672, 673, 674, 675, 708, 709, 710, 711, 712, 713, 714, 715, 716, 717, 718, 719, 720, 721, 722, 723, 724, 725, 726, 727, 728] (by decide +kernel) (by decide +kernel)
set_option maxRecDepth 20000 in
theorem gL_law_X6_heard : GoodIn wsL_law (wsV RL 116 RX6 yX6_heard wsX6_heard) := goodIn_app (goodIn_of _ (by decide +kernel)) ggL_law_X6_heard
set_option maxRecDepth 20000 in
theorem ggL_law_X4_inOrder : GoodIn wsL_law wsX4_inOrder := goodIn_r _ [479, 24, 480, 481, 482, 23, 483, 76, 80, 659, 660, 661, 662, 663, 664, 665, 698, 699, 700, 701, 702, 703, 704, 705] (by decide +kernel) (by decide +kernel)
set_option maxRecDepth 20000 in
theorem gL_law_X4_inOrder : GoodIn wsL_law (wsV RL 117 RX4 yX4_inOrder wsX4_inOrder) := goodIn_app (goodIn_of _ (by decide +kernel)) ggL_law_X4_inOrder
set_option maxRecDepth 20000 in
theorem ggL_law_X6_inOrder : GoodIn wsL_law wsX6_inOrder := goodIn_r _ [487, 136, 93, 488, 489, 490, 92, 491, 423, 427, 666, 667, 668, 669, 670, 671, 672, 673, 674, 675, 708, 709, 710, 711, 712, 713, 714, 715, 716, 717, 718, 719, 720, 721, 722, 723, 724, 725, 726, 727, 728] (by decide +kernel) (by decide +kernel)
set_option maxRecDepth 20000 in
theorem gL_law_X6_inOrder : GoodIn wsL_law (wsV RL 121 RX6 yX6_inOrder wsX6_inOrder) := goodIn_app (goodIn_of _ (by decide +kernel)) ggL_law_X6_inOrder
set_option maxRecDepth 20000 in
theorem ggL_law_L_first : GoodIn wsL_law wsL_first := goodIn_ca (goodIn_r _ [494, 155, 495, 496, 497, 2, 498, 24, 120, 121, 122, 164, 165, 166, 167, 168, 659, 660, 661, 662, 663, 664, 665, 698, 699, 700, 701, 702, 703, 704, 705] (by decide +kernel) (by decide +kernel)) (goodIn_sub (fun _ h => List.mem_append_right _ h) (by decide +kernel))
set_option maxRecDepth 20000 in
theorem gL_law_L_first : GoodIn wsL_law (va_wsS RL 122 yL_first wsL_first) := goodIn_app (goodIn_of _ (by decide +kernel)) ggL_law_L_first
set_option maxRecDepth 20000 in
theorem ggL_law_X6_first : GoodIn wsL_law wsX6_first := goodIn_r _ [502, 136, 93, 141, 142, 5, 143, 144, 145, 146, 147, 666, 667, 668, 669, 670, 671, 672, 673, 674, 675, 708, 709, 710, 711, 712, 713, 714, 715, 716, 717, 718, 719, 720, 721, 722, 723, 724, 725, 726, 727, 728] (by decide +kernel) (by decide +kernel)
set_option maxRecDepth 20000 in
theorem gL_law_X6_first : GoodIn wsL_law (wsV RL 124 RX6 yX6_first wsX6_first) := goodIn_app (goodIn_of _ (by decide +kernel)) ggL_law_X6_first
set_option maxRecDepth 20000 in
theorem ggL_law_L_count : GoodIn wsL_law wsL_count := goodIn_ca (goodIn_r _ [505, 155, 506, 507, 508, 2, 509, 120, 121, 122, 164, 165, 166, 167, 168, 510, 511, 512, 513, 16, 26, 27, 28, 24, 514, 515, 516, 15, 517, 48, 250, 251, 252, 253, 35, 42, 49, 43, 518, 519, 520, 521, 47, 37, 659, 660, 661, 662, 663, 664, 665, 676, 677, 678, 679, 680, 681, 682, 683, 684, 685, 686, 687, 688, 689, 690, 698, 699, 700, 701, 702, 703, 704, 705] (by decide +kernel) (by decide +kernel)) (goodIn_sub (fun _ h => List.mem_append_right _ h) (by decide +kernel))
set_option maxRecDepth 20000 in
theorem gL_law_L_count : GoodIn wsL_law (va_wsS RL 125 yL_count wsL_count) := goodIn_app (goodIn_of _ (by decide +kernel)) ggL_law_L_count
set_option maxRecDepth 20000 in
theorem ggL_law_X6_count : GoodIn wsL_law wsX6_count := goodIn_r _ [525, 136, 141, 142, 5, 143, 526, 527, 528, 529, 86, 181, 197, 88, 87, 413, 93, 266, 267, 268, 269, 89, 144, 145, 146, 147, 666, 667, 668, 669, 670, 671, 672, 673, 674, 675, 708, 709, 710, 711, 712, 713, 714, 715, 716, 717, 718, 719, 720, 721, 722, 723, 724, 725, 726, 727, 728] (by decide +kernel) (by decide +kernel)
set_option maxRecDepth 20000 in
theorem gL_law_X6_count : GoodIn wsL_law (wsV RL 127 RX6 yX6_count wsX6_count) := goodIn_app (goodIn_of _ (by decide +kernel)) ggL_law_X6_count
set_option maxRecDepth 20000 in
theorem ggL_law_L_would : GoodIn wsL_law wsL_would := goodIn_ca (goodIn_ca (goodIn_r _ [532, 112, 155, 533, 534, 535, 2, 536, 20, 26, 25, 300, 301, 302, 303, 304, 305, 306, 120, 121, 122, 123, 124, 125, 126, 127, 164, 165, 166, 167, 168, 307, 308, 309, 19, 310, 58, 311, 312, 313, 314, 315, 23, 316, 76, 77, 78, 79, 80, 81, 75, 317, 318, 319, 320, 321, 322, 323, 324, 62, 63, 325, 326, 327, 57, 328, 69, 329, 330, 331, 332, 59, 60, 61, 333, 334, 335, 336, 337, 338, 339, 68, 340, 341, 342, 343, 344, 345, 346, 347, 348, 349, 350, 351, 352, 353, 354, 355, 54, 356, 357, 358, 359, 360, 361, 362, 363, 364, 365, 366, 367, 368, 369, 370, 371, 161, 162, 15, 163, 47, 372, 373, 374, 375, 74, 376, 377, 378, 379, 380, 381, 382, 383, 36, 384, 385, 386, 387, 388, 389, 390, 391, 392, 251, 252, 253, 35, 42, 49, 43, 393, 394, 395, 396, 397, 398, 399, 400, 401, 402, 403, 404, 45, 405, 406, 407, 408, 34, 480, 481, 482, 483, 659, 660, 661, 662, 663, 664, 665, 698, 699, 700, 701, 702, 703, 704, 705, 691, 692, 693, 694, 695, 696, 697, 706, 707, 676, 677, 678, 679, 680, 681, 682, 683, 684, 685, 686, 687, 688, 689, 690] (by decide +kernel) (by decide +kernel)) (goodIn_sub (fun _ h => List.mem_append_left _ (List.mem_append_right _ h)) (by decide +kernel))) (goodIn_sub (fun _ h => List.mem_append_right _ h) (by decide +kernel))
set_option maxRecDepth 20000 in
theorem gL_law_L_would : GoodIn wsL_law (va_wsS RL 128 yL_would wsL_would) := goodIn_app (goodIn_of _ (by decide +kernel)) ggL_law_L_would
set_option maxRecDepth 20000 in
theorem ggL_law_X6_would : GoodIn wsL_law wsX6_would := goodIn_r _ [540, 136, 94, 414, 415, 5, 416, 417, 141, 142, 143, 144, 145, 146, 147, 541, 542, 543, 544, 418, 419, 420, 92, 421, 422, 423, 424, 425, 426, 427, 428, 429, 430, 100, 431, 432, 433, 434, 106, 107, 435, 436, 437, 438, 102, 103, 104, 105, 439, 440, 441, 442, 443, 444, 445, 446, 97, 447, 448, 449, 450, 101, 451, 452, 453, 454, 99, 455, 456, 263, 264, 265, 89, 267, 268, 269, 88, 457, 458, 459, 460, 488, 489, 490, 491, 666, 667, 668, 669, 670, 671, 672, 673, 674, 675, 708, 709, 710, 711, 712, 713, 714, 715, 716, 717, 718, 719, 720, 721, 722, 723, 724, 725, 726, 727, 728] (by decide +kernel) (by decide +kernel)
set_option maxRecDepth 20000 in
theorem gL_law_X6_would : GoodIn wsL_law (wsV RL 130 RX6 yX6_would wsX6_would) := goodIn_app (goodIn_of _ (by decide +kernel)) ggL_law_X6_would
set_option maxRecDepth 20000 in
theorem ggL_law_L_advise : GoodIn wsL_law wsL_advise := goodIn_ca (goodIn_r _ [547, 112, 548, 549, 550, 2, 551, 16, 300, 301, 302, 303, 304, 305, 306, 120, 121, 122, 123, 124, 125, 126, 127, 216, 217, 218, 15, 219, 37, 38, 552, 553, 554, 555, 20, 26, 25, 307, 308, 309, 19, 310, 58, 311, 312, 313, 314, 315, 23, 316, 76, 77, 78, 79, 80, 81, 75, 317, 318, 319, 320, 321, 322, 323, 324, 62, 63, 325, 326, 327, 57, 328, 69, 329, 330, 331, 332, 59, 60, 61, 333, 334, 335, 336, 337, 338, 339, 68, 340, 341, 342, 343, 344, 345, 346, 347, 348, 349, 350, 351, 352, 353, 354, 355, 54, 356, 357, 358, 359, 360, 361, 362, 363, 364, 365, 366, 367, 368, 369, 370, 371, 161, 162, 163, 47, 372, 373, 374, 375, 74, 376, 377, 378, 379, 380, 381, 382, 383, 36, 384, 385, 386, 387, 388, 389, 390, 391, 392, 251, 252, 253, 35, 42, 49, 43, 393, 394, 395, 396, 397, 398, 399, 400, 401, 402, 403, 404, 45, 405, 406, 407, 408, 34, 480, 481, 482, 483, 659, 660, 661, 662, 663, 664, 665, 676, 677, 678, 679, 680, 681, 682, 683, 684, 685, 686, 687, 688, 689, 690, 691, 692, 693, 694, 695, 696, 697, 698, 699, 700, 701, 702, 703, 704, 705, 706, 707] (by decide +kernel) (by decide +kernel)) (goodIn_sub (fun _ h => List.mem_append_left _ (List.mem_append_right _ h)) (by decide +kernel))
set_option maxRecDepth 20000 in
theorem gL_law_L_advise : GoodIn wsL_law (va_wsS RL 131 yL_advise wsL_advise) := goodIn_app (goodIn_of _ (by decide +kernel)) ggL_law_L_advise
set_option maxRecDepth 20000 in
theorem ggL_law_X6_advise : GoodIn wsL_law wsX6_advise := goodIn_r _ [559, 136, 86, 94, 414, 415, 5, 416, 417, 141, 142, 143, 144, 145, 146, 147, 560, 561, 562, 92, 563, 99, 455, 456, 541, 542, 543, 544, 418, 419, 420, 421, 422, 423, 424, 425, 426, 427, 428, 429, 430, 100, 431, 432, 433, 434, 106, 107, 435, 436, 437, 438, 102, 103, 104, 105, 439, 440, 441, 442, 443, 444, 445, 446, 97, 447, 448, 449, 450, 101, 451, 452, 453, 454, 263, 264, 265, 89, 267, 268, 269, 88, 457, 458, 459, 460, 488, 489, 490, 491, 666, 667, 668, 669, 670, 671, 672, 673, 674, 675, 708, 709, 710, 711, 712, 713, 714, 715, 716, 717, 718, 719, 720, 721, 722, 723, 724, 725, 726, 727, 728] (by decide +kernel) (by decide +kernel)
set_option maxRecDepth 20000 in
theorem gL_law_X6_advise : GoodIn wsL_law (wsV RL 133 RX6 yX6_advise wsX6_advise) := goodIn_app (goodIn_of _ (by decide +kernel)) ggL_law_X6_advise
set_option maxRecDepth 20000 in
theorem ggL_law_L_longest : GoodIn wsL_law wsL_longest := goodIn_ca (goodIn_r _ [566, 112, 567, 568, 569, 2, 570, 120, 121, 122, 123, 124, 125, 126, 127, 552, 553, 554, 555, 20, 26, 25, 307, 308, 309, 19, 310, 58, 311, 312, 313, 314, 315, 23, 316, 76, 77, 78, 79, 80, 81, 75, 317, 318, 319, 320, 321, 322, 323, 324, 62, 63, 325, 326, 327, 57, 328, 69, 329, 330, 331, 332, 59, 60, 61, 333, 334, 335, 336, 337, 338, 339, 68, 340, 341, 342, 343, 344, 345, 346, 347, 348, 349, 350, 351, 352, 353, 354, 355, 54, 356, 357, 358, 359, 360, 361, 362, 363, 364, 365, 366, 367, 368, 369, 370, 371, 161, 162, 15, 163, 47, 372, 373, 374, 375, 74, 376, 377, 378, 379, 380, 381, 382, 383, 36, 384, 385, 386, 387, 388, 389, 390, 391, 392, 251, 252, 253, 35, 42, 49, 43, 393, 394, 395, 396, 397, 398, 399, 400, 401, 402, 403, 404, 45, 405, 406, 407, 408, 34, 480, 481, 482, 483, 659, 660, 661, 662, 663, 664, 665, 691, 692, 693, 694, 695, 696, 697, 698, 699, 700, 701, 702, 703, 704, 705, 706, 707, 676, 677, 678, 679, 680, 681, 682, 683, 684, 685, 686, 687, 688, 689, 690] (by decide +kernel) (by decide +kernel)) (goodIn_sub (fun _ h => List.mem_append_left _ (List.mem_append_right _ h)) (by decide +kernel))
set_option maxRecDepth 20000 in
theorem gL_law_L_longest : GoodIn wsL_law (va_wsS RL 134 yL_longest wsL_longest) := goodIn_app (goodIn_of _ (by decide +kernel)) ggL_law_L_longest
set_option maxRecDepth 20000 in
theorem ggL_law_X6_longest : GoodIn wsL_law wsX6_longest := goodIn_r _ [574, 136, 141, 142, 5, 143, 144, 145, 146, 147, 541, 542, 543, 544, 94, 418, 419, 420, 92, 421, 422, 423, 424, 425, 426, 427, 428, 429, 430, 100, 431, 432, 433, 434, 106, 107, 435, 436, 437, 438, 102, 103, 104, 105, 439, 440, 441, 442, 443, 444, 445, 446, 97, 447, 448, 449, 450, 101, 451, 452, 453, 454, 99, 455, 456, 263, 264, 265, 89, 267, 268, 269, 88, 457, 458, 459, 460, 488, 489, 490, 491, 666, 667, 668, 669, 670, 671, 672, 673, 674, 675, 708, 709, 710, 711, 712, 713, 714, 715, 716, 717, 718, 719, 720, 721, 722, 723, 724, 725, 726, 727, 728] (by decide +kernel) (by decide +kernel)
set_option maxRecDepth 20000 in
theorem gL_law_X6_longest : GoodIn wsL_law (wsV RL 136 RX6 yX6_longest wsX6_longest) := goodIn_app (goodIn_of _ (by decide +kernel)) ggL_law_X6_longest
set_option maxRecDepth 20000 in
theorem ggL_law_L_quickest : GoodIn wsL_law wsL_quickest := goodIn_ca (goodIn_r _ [577, 112, 578, 579, 580, 2, 581, 303, 304, 305, 306, 120, 121, 122, 123, 124, 125, 126, 127, 552, 553, 554, 555, 20, 26, 25, 307, 308, 309, 19, 310, 58, 311, 312, 313, 314, 315, 23, 316, 76, 77, 78, 79, 80, 81, 75, 317, 318, 319, 320, 321, 322, 323, 324, 62, 63, 325, 326, 327, 57, 328, 69, 329, 330, 331, 332, 59, 60, 61, 333, 334, 335, 336, 337, 338, 339, 68, 340, 341, 342, 343, 344, 345, 346, 347, 348, 349, 350, 351, 352, 353, 354, 355, 54, 356, 357, 358, 359, 360, 361, 362, 363, 364, 365, 366, 367, 368, 369, 370, 371, 161, 162, 15, 163, 47, 372, 373, 374, 375, 74, 376, 377, 378, 379, 380, 381, 382, 383, 36, 384, 385, 386, 387, 388, 389, 390, 391, 392, 251, 252, 253, 35, 42, 49, 43, 393, 394, 395, 396, 397, 398, 399, 400, 401, 402, 403, 404, 45, 405, 406, 407, 408, 34, 480, 481, 482, 483, 659, 660, 661, 662, 663, 664, 665, 691, 692, 693, 694, 695, 696, 697, 698, 699, 700, 701, 702, 703, 704, 705, 706, 707, 676, 677, 678, 679, 680, 681, 682, 683, 684, 685, 686, 687, 688, 689, 690] (by decide +kernel) (by decide +kernel)) (goodIn_sub (fun _ h => List.mem_append_left _ (List.mem_append_right _ h)) (by decide +kernel))
set_option maxRecDepth 20000 in
theorem gL_law_L_quickest : GoodIn wsL_law (va_wsS RL 137 yL_quickest wsL_quickest) := goodIn_app (goodIn_of _ (by decide +kernel)) ggL_law_L_quickest
set_option maxRecDepth 20000 in
theorem ggL_law_X6_quickest : GoodIn wsL_law wsX6_quickest := goodIn_r _ [585, 136, 414, 415, 5, 416, 417, 141, 142, 143, 144, 145, 146, 147, 541, 542, 543, 544, 94, 418, 419, 420, 92, 421, 422, 423, 424, 425, 426, 427, 428, 429, 430, 100, 431, 432, 433, 434, 106, 107, 435, 436, 437, 438, 102, 103, 104, 105, 439, 440, 441, 442, 443, 444, 445, 446, 97, 447, 448, 449, 450, 101, 451, 452, 453, 454, 99, 455, 456, 263, 264, 265, 89, 267, 268, 269, 88, 457, 458, 459, 460, 488, 489, 490, 491, 666, 667, 668, 669, 670, 671, 672, 673, 674, 675, 708, 709, 710, 711, 712, 713, 714, 715, 716, 717, 718, 719, 720, 721, 722, 723, 724, 725, 726, 727, 728] (by decide +kernel) (by decide +kernel)
set_option maxRecDepth 20000 in
theorem gL_law_X6_quickest : GoodIn wsL_law (wsV RL 139 RX6 yX6_quickest wsX6_quickest) := goodIn_app (goodIn_of _ (by decide +kernel)) ggL_law_X6_quickest
set_option maxRecDepth 20000 in
theorem ggL_law_L_way : GoodIn wsL_law wsL_way := goodIn_ca (goodIn_r _ [588, 155, 589, 590, 591, 2, 592, 16, 160, 161, 162, 15, 163, 47, 121, 122, 164, 165, 166, 167, 168, 593, 594, 595, 596, 46, 48, 42, 43, 44, 597, 318, 319, 320, 250, 251, 252, 253, 35, 49, 598, 599, 600, 601, 659, 660, 661, 662, 663, 664, 665, 676, 677, 678, 679, 680, 681, 682, 683, 684, 685, 686, 687, 688, 689, 690] (by decide +kernel) (by decide +kernel)) (goodIn_sub (fun _ h => List.mem_append_right _ h) (by decide +kernel))
set_option maxRecDepth 20000 in
theorem gL_law_L_way : GoodIn wsL_law (va_wsS RL 140 yL_way wsL_way) := goodIn_app (goodIn_of _ (by decide +kernel)) ggL_law_L_way
set_option maxRecDepth 20000 in
theorem ggL_law_X6_way : GoodIn wsL_law wsX6_way := goodIn_r _ [605, 136, 197, 182, 183, 184, 5, 185, 86, 141, 142, 143, 606, 607, 608, 609, 33, 181, 89, 610, 611, 433, 612, 266, 267, 268, 269, 88, 144, 145, 146, 147, 666, 667, 668, 669, 670, 671, 672, 673, 674, 675] (by decide +kernel) (by decide +kernel)
set_option maxRecDepth 20000 in
theorem gL_law_X6_way : GoodIn wsL_law (wsV RL 142 RX6 yX6_way wsX6_way) := goodIn_app (goodIn_of _ (by decide +kernel)) ggL_law_X6_way
set_option maxRecDepth 20000 in
theorem ggL_law_L_highest : GoodIn wsL_law wsL_highest := goodIn_ca (goodIn_r _ [615, 155, 616, 617, 618, 2, 619, 16, 160, 161, 162, 15, 163, 47, 121, 122, 164, 165, 166, 167, 168, 620, 621, 622, 623, 46, 48, 42, 43, 597, 318, 319, 320, 624, 625, 626, 627, 35, 628, 611, 433, 612, 629, 432, 434, 659, 660, 661, 662, 663, 664, 665, 676, 677, 678, 679, 680, 681, 682, 683, 684, 685, 686, 687, 688, 689, 690] (by decide +kernel) (by decide +kernel)) (goodIn_sub (fun _ h => List.mem_append_right _ h) (by decide +kernel))
set_option maxRecDepth 20000 in
theorem gL_law_L_highest : GoodIn wsL_law (va_wsS RL 143 yL_highest wsL_highest) := goodIn_app (goodIn_of _ (by decide +kernel)) ggL_law_L_highest
set_option maxRecDepth 20000 in
theorem ggL_law_X6_highest : GoodIn wsL_law wsX6_highest := goodIn_r _ [633, 136, 182, 183, 184, 5, 185, 86, 141, 142, 143, 144, 145, 146, 147, 606, 607, 608, 609, 33, 181, 89, 610, 611, 433, 612, 266, 267, 268, 269, 88, 666, 667, 668, 669, 670, 671, 672, 673, 674, 675] (by decide +kernel) (by decide +kernel)
set_option maxRecDepth 20000 in
theorem gL_law_X6_highest : GoodIn wsL_law (wsV RL 145 RX6 yX6_highest wsX6_highest) := goodIn_app (goodIn_of _ (by decide +kernel)) ggL_law_X6_highest
set_option maxRecDepth 20000 in
theorem ggL_law_X4_mean : GoodIn wsL_law wsX4_mean := goodIn_r _ [637, 24, 638, 639, 640, 23, 641, 78, 642, 469, 470, 471, 74, 659, 660, 661, 662, 663, 664, 665, 698, 699, 700, 701, 702, 703, 704, 705] (by decide +kernel) (by decide +kernel)
set_option maxRecDepth 20000 in
theorem gL_law_X4_mean : GoodIn wsL_law (wsV RL 146 RX4 yX4_mean wsX4_mean) := goodIn_app (goodIn_of _ (by decide +kernel)) ggL_law_X4_mean
set_option maxRecDepth 20000 in
theorem ggL_law_X6_mean : GoodIn wsL_law wsX6_mean := goodIn_r _ [646, 136, 93, 666, 667, 668, 669, 670, 671, 672, 673, 674, 675, 708, 709, 710, 711, 712, 713, 714, 715, 716, 717, 718, 719, 720, 721, 722, 723, 724, 725, 726, 727, 728] (by decide +kernel) (by decide +kernel)
set_option maxRecDepth 20000 in
theorem gL_law_X6_mean : GoodIn wsL_law (wsV RL 150 RX6 yX6_mean wsX6_mean) := goodIn_app (goodIn_of _ (by decide +kernel)) ggL_law_X6_mean
set_option maxRecDepth 20000 in
theorem ggL_law_X4_digest : GoodIn wsL_law wsX4_digest := goodIn_r _ [650, 651, 652, 16, 24, 510, 511, 512, 2, 513, 26, 27, 28, 514, 515, 516, 15, 517, 48, 250, 251, 252, 253, 35, 42, 49, 43, 518, 519, 520, 521, 47, 37, 242, 243, 244, 245, 34, 36, 38, 39, 246, 247, 248, 249, 41, 281, 282, 283, 284, 44, 45, 468, 469, 470, 23, 471, 74, 480, 481, 482, 483, 76, 80, 659, 660, 661, 662, 663, 664, 665, 676, 677, 678, 679, 680, 681, 682, 683, 684, 685, 686, 687, 688, 689, 690, 698, 699, 700, 701, 702, 703, 704, 705] (by decide +kernel) (by decide +kernel)
set_option maxRecDepth 20000 in
theorem gL_law_X4_digest : GoodIn wsL_law (wsV RL 151 RX4 yX4_digest wsX4_digest) := goodIn_app (goodIn_of _ (by decide +kernel)) ggL_law_X4_digest
set_option maxRecDepth 20000 in
theorem ggL_law_X6_digest : GoodIn wsL_law wsX6_digest := goodIn_r _ [656, 136, 657, 658, 86, 181, 93, 526, 527, 528, 5, 529, 197, 88, 87, 413, 266, 267, 268, 269, 89, 258, 259, 260, 261, 262, 263, 264, 265, 289, 290, 291, 292, 488, 489, 490, 92, 491, 423, 427, 666, 667, 668, 669, 670, 671, 672, 673, 674, 675, 708, 709, 710, 711, 712, 713, 714, 715, 716, 717, 718, 719, 720, 721, 722, 723, 724, 725, 726, 727, 728] (by decide +kernel) (by decide +kernel)
set_option maxRecDepth 20000 in
theorem gL_law_X6_digest : GoodIn wsL_law (wsV RL 155 RX6 yX6_digest wsX6_digest) := goodIn_app (goodIn_of _ (by decide +kernel)) ggL_law_X6_digest
