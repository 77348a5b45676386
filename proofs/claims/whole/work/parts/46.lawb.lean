theorem inlX0 : ∀ w ∈ wsX00, w ∈ wsL_law := fun _ h => List.mem_append_left _ (List.mem_append_left _ (List.mem_append_left _ (List.mem_append_left _ (List.mem_append_left _ (List.mem_append_left _ (List.mem_append_left _ (List.mem_append_left _ (List.mem_append_right _ h))))))))
theorem inX0 : ∀ w ∈ wsX00, w ∈ lw_tbl := fun w h => wsL_law_in w (inlX0 w h)
theorem inlX1 : ∀ w ∈ wsX10, w ∈ wsL_law := fun _ h => List.mem_append_left _ (List.mem_append_left _ (List.mem_append_left _ (List.mem_append_left _ (List.mem_append_left _ (List.mem_append_left _ (List.mem_append_right _ h))))))
theorem inX1 : ∀ w ∈ wsX10, w ∈ lw_tbl := fun w h => wsL_law_in w (inlX1 w h)
theorem inlX2 : ∀ w ∈ wsX20, w ∈ wsL_law := fun _ h => List.mem_append_left _ (List.mem_append_left _ (List.mem_append_left _ (List.mem_append_left _ (List.mem_append_left _ (List.mem_append_left _ (List.mem_append_left _ (List.mem_append_right _ h)))))))
theorem inX2 : ∀ w ∈ wsX20, w ∈ lw_tbl := fun w h => wsL_law_in w (inlX2 w h)
theorem inlX3 : ∀ w ∈ wsX30, w ∈ wsL_law := fun _ h => List.mem_append_left _ (List.mem_append_left _ (List.mem_append_left _ (List.mem_append_left _ (List.mem_append_left _ (List.mem_append_right _ h)))))
theorem inX3 : ∀ w ∈ wsX30, w ∈ lw_tbl := fun w h => wsL_law_in w (inlX3 w h)
theorem inlX4 : ∀ w ∈ wsX40, w ∈ wsL_law := fun _ h => List.mem_append_left _ (List.mem_append_left _ (List.mem_append_left _ (List.mem_append_left _ (List.mem_append_right _ h))))
theorem inX4 : ∀ w ∈ wsX40, w ∈ lw_tbl := fun w h => wsL_law_in w (inlX4 w h)
theorem inlX5 : ∀ w ∈ wsX50, w ∈ wsL_law := fun _ h => List.mem_append_left _ (List.mem_append_left _ (List.mem_append_left _ (List.mem_append_left _ (List.mem_append_left _ (List.mem_append_left _ (List.mem_append_left _ (List.mem_append_left _ (List.mem_append_left _ (List.mem_append_right _ h)))))))))
theorem inX5 : ∀ w ∈ wsX50, w ∈ lw_tbl := fun w h => wsL_law_in w (inlX5 w h)
theorem inlX6 : ∀ w ∈ wsX60, w ∈ wsL_law := fun _ h => List.mem_append_left _ (List.mem_append_left _ (List.mem_append_left _ (List.mem_append_left _ (List.mem_append_left _ (List.mem_append_left _ (List.mem_append_left _ (List.mem_append_left _ (List.mem_append_left _ (List.mem_append_left _ (List.mem_append_left _ (List.mem_append_right _ h)))))))))))
theorem inX6 : ∀ w ∈ wsX60, w ∈ lw_tbl := fun w h => wsL_law_in w (inlX6 w h)
theorem inlX7 : ∀ w ∈ wsX70, w ∈ wsL_law := fun _ h => List.mem_append_left _ (List.mem_append_left _ (List.mem_append_left _ (List.mem_append_left _ (List.mem_append_left _ (List.mem_append_left _ (List.mem_append_left _ (List.mem_append_left _ (List.mem_append_left _ (List.mem_append_left _ (List.mem_append_right _ h))))))))))
theorem inX7 : ∀ w ∈ wsX70, w ∈ lw_tbl := fun w h => wsL_law_in w (inlX7 w h)
theorem inJ6 : ∀ w ∈ wsJ60, w ∈ lw_tbl := by decide +kernel
theorem inJ0 : ∀ w ∈ wsJ00, w ∈ lw_tbl := by decide +kernel
theorem inJ10 : ∀ w ∈ wsJ100, w ∈ lw_tbl := by decide +kernel
theorem inJ7 : ∀ w ∈ wsJ70, w ∈ lw_tbl := by decide +kernel
set_option maxRecDepth 20000 in
theorem ggL_law_X6_init : GoodIn wsL_law wsX6_init := goodIn_r _ [11, 12, 13, 14, 15, 16, 17, 18, 19, 20, 21, 22, 23, 24, 25, 26, 27, 28, 29, 30, 31, 32, 33, 34, 35, 36, 37, 38, 39, 40, 41, 42, 43, 44, 45, 46, 47, 48, 49, 50, 51, 2, 52, 53, 54, 55, 56, 57, 58, 59, 60, 61, 62, 63, 64, 65, 66, 67, 68, 69, 70, 71, 72, 73, 74, 75, 76, 77, 78, 79, 80, 81, 82, 83, 84, 85, 86, 87, 88, 89, 90, 91, 92, 93, 94, 95, 96, 97, 98, 99, 100, 101, 102, 103, 104, 105, 106, 107, 108, 109, 110, 111, 112, 113, 114, 115, 116, 117, 118, 119, 120, 121, 122, 123, 124, 125, 126, 127, 128, 129, 130, 131, 132, 133, 134, 135, 136, 137, 138, 139, 140, 141, 714, 715, 716, 717, 718, 719, 720, 721, 722, 671, 672, 673, 674, 675, 676, 677, 678, 679, 723, 724, 725, 726, 727, 728, 729, 730, 731, 732, 733, 734, 735, 736, 737, 738, 739, 740] (by decide +kernel) (by decide +kernel)
set_option maxRecDepth 20000 in
theorem gL_law_X6_init : GoodIn wsL_law (wsX6_init) := ggL_law_X6_init
set_option maxRecDepth 20000 in
theorem ggL_law_X7_init : GoodIn wsL_law wsX7_init := goodIn_r _ [144, 145, 13, 14, 58, 146, 147, 148, 149, 150, 151, 152, 153, 154, 155, 156, 157, 158, 159, 160, 161, 162, 163, 164, 165, 166, 5, 167, 168, 169, 170, 171, 172, 173, 174, 175, 176, 177, 178, 179, 180, 181, 182, 183, 184, 185, 186, 187, 188, 189, 190, 191, 192, 680, 681, 682, 683, 684, 685, 686, 687, 688, 689, 690, 691, 692, 693, 694, 695, 696, 697, 698, 699, 700, 701, 702, 703, 704, 705, 706, 707, 708, 709, 710, 711, 712, 713] (by decide +kernel) (by decide +kernel)
set_option maxRecDepth 20000 in
theorem gL_law_X7_init : GoodIn wsL_law (wsX7_init) := ggL_law_X7_init
set_option maxRecDepth 20000 in
theorem ggL_law_L_size : GoodIn wsL_law wsL_size := goodIn_ca (goodIn_r _ [196, 197, 198, 199, 200, 2, 201, 202, 203, 204, 205, 206, 81, 82, 83, 84, 85, 86, 87, 88, 18, 22, 26, 30, 89, 90, 91, 17, 92, 37, 38, 39, 40, 44, 93, 94, 95, 96, 97, 98, 99, 36, 100, 50, 101, 102, 103, 43, 104, 57, 60, 61, 59, 105, 106, 107, 108, 109, 110, 111, 112, 21, 113, 67, 114, 115, 116, 117, 118, 119, 120, 121, 122, 123, 68, 124, 125, 126, 25, 127, 76, 128, 129, 130, 131, 132, 75, 133, 134, 135, 136, 29, 137, 80, 138, 139, 140, 141, 671, 672, 673, 674, 675, 676, 677, 678, 679, 714, 715, 716, 717, 718, 719, 720, 721, 722, 736, 737, 738, 739, 740, 723, 724, 725, 726, 727, 728, 729, 730, 731, 732, 733, 734, 735] (by decide +kernel) (by decide +kernel)) (goodIn_sub (fun _ h => List.mem_append_left _ (List.mem_append_left _ (List.mem_append_right _ h))) (by decide +kernel))
set_option maxRecDepth 20000 in
theorem gL_law_L_size : GoodIn wsL_law (va_wsS RL 80 yL_size wsL_size) := goodIn_app (goodIn_of _ (by decide +kernel)) ggL_law_L_size
set_option maxRecDepth 20000 in
theorem ggL_law_X7_size : GoodIn wsL_law wsX7_size := goodIn_r _ [167, 168, 169, 170, 146, 150, 151, 171, 172, 173, 174, 175, 176, 177, 178, 154, 179, 180, 181, 5, 182, 155, 183, 184, 185, 186, 156, 187, 188, 189, 190, 191, 192, 158, 159, 680, 681, 682, 683, 684, 685, 686, 687, 688, 689, 690, 691, 692, 693, 694, 695, 696, 697, 698, 699, 700, 701, 702, 703, 704, 705, 706, 707, 708, 709, 710, 711, 712, 713] (by decide +kernel) (by decide +kernel)
set_option maxRecDepth 20000 in
theorem gL_law_X7_size : GoodIn wsL_law (wsV RL 85 RX7 yX7_size wsX7_size) := goodIn_app (goodIn_of _ (by decide +kernel)) ggL_law_X7_size
set_option maxRecDepth 20000 in
theorem ggL_law_X7_thrown : GoodIn wsL_law wsX7_thrown := goodIn_r _ [211, 168, 680, 681, 682, 683, 684, 685, 686, 687, 688, 689, 690, 691, 692, 693, 694, 695, 696, 697, 698, 699, 700, 701, 702, 703, 704, 705, 706, 707, 708, 709, 710, 711, 712, 713] (by decide +kernel) (by decide +kernel)
set_option maxRecDepth 20000 in
theorem gL_law_X7_thrown : GoodIn wsL_law (wsV RL 86 RX7 yX7_thrown wsX7_thrown) := goodIn_app (goodIn_of _ (by decide +kernel)) ggL_law_X7_thrown
set_option maxRecDepth 20000 in
theorem ggL_law_L_matrix : GoodIn wsL_law wsL_matrix := goodIn_ca (goodIn_r _ [214, 197, 215, 216, 217, 2, 218, 202, 203, 22, 219, 204, 205, 206, 671, 672, 673, 674, 675, 676, 677, 678, 679, 723, 724, 725, 726, 727, 728] (by decide +kernel) (by decide +kernel)) (goodIn_sub (fun _ h => List.mem_append_left _ (List.mem_append_left _ (List.mem_append_right _ h))) (by decide +kernel))
set_option maxRecDepth 20000 in
theorem gL_law_L_matrix : GoodIn wsL_law (va_wsS RL 89 yL_matrix wsL_matrix) := goodIn_app (goodIn_of _ (by decide +kernel)) ggL_law_L_matrix
set_option maxRecDepth 20000 in
theorem ggL_law_X7_matrix : GoodIn wsL_law wsX7_matrix := goodIn_r _ [223, 168, 146, 680, 681, 682, 683, 684, 685, 686, 687, 688, 689, 690, 691, 692, 693, 694, 695, 696, 697, 698, 699, 700, 701, 702, 703, 704, 705, 706, 707, 708, 709, 710, 711, 712, 713] (by decide +kernel) (by decide +kernel)
set_option maxRecDepth 20000 in
theorem gL_law_X7_matrix : GoodIn wsL_law (wsV RL 92 RX7 yX7_matrix wsX7_matrix) := goodIn_app (goodIn_of _ (by decide +kernel)) ggL_law_X7_matrix
set_option maxRecDepth 20000 in
theorem ggL_law_L_begin : GoodIn wsL_law wsL_begin := goodIn_ca (goodIn_ca (goodIn_r _ [226, 197, 227, 228, 229, 230, 2, 231, 202, 203, 232, 233, 87, 234, 26, 22, 204, 205, 206, 124, 125, 126, 25, 127, 76, 128, 129, 130, 131, 132, 75, 133, 106, 107, 108, 235, 116, 117, 21, 118, 119, 120, 121, 122, 123, 68, 114, 671, 672, 673, 674, 675, 676, 677, 678, 679, 729, 730, 731, 723, 724, 725, 726, 727, 728] (by decide +kernel) (by decide +kernel)) (goodIn_sub (fun _ h => List.mem_append_left _ (List.mem_append_left _ (List.mem_append_right _ h))) (by decide +kernel))) (goodIn_sub (fun _ h => List.mem_append_left _ (List.mem_append_right _ h)) (by decide +kernel))
set_option maxRecDepth 20000 in
theorem gL_law_L_begin : GoodIn wsL_law (va_wsS RL 93 yL_begin wsL_begin) := goodIn_app (goodIn_of _ (by decide +kernel)) ggL_law_L_begin
set_option maxRecDepth 20000 in
theorem ggL_law_X7_begin : GoodIn wsL_law wsX7_begin := goodIn_r _ [239, 177, 168, 154, 240, 241, 178, 242, 179, 180, 181, 5, 182, 155, 183, 184, 185, 186, 156, 187, 188, 189, 190, 191, 192, 158, 159, 680, 681, 682, 683, 684, 685, 686, 687, 688, 689, 690, 691, 692, 693, 694, 695, 696, 697, 698, 699, 700, 701, 702, 703, 704, 705, 706, 707, 708, 709, 710, 711, 712, 713] (by decide +kernel) (by decide +kernel)
set_option maxRecDepth 20000 in
theorem gL_law_X7_begin : GoodIn wsL_law (wsV RL 96 RX7 yX7_begin wsX7_begin) := goodIn_app (goodIn_of _ (by decide +kernel)) ggL_law_X7_begin
set_option maxRecDepth 20000 in
theorem ggL_law_L_scale : GoodIn wsL_law wsL_scale := goodIn_ca (goodIn_ca (goodIn_r _ [245, 197, 227, 246, 247, 248, 2, 249, 202, 203, 232, 233, 87, 22, 250, 204, 205, 206, 671, 672, 673, 674, 675, 676, 677, 678, 679, 723, 724, 725, 726, 727, 728] (by decide +kernel) (by decide +kernel)) (goodIn_sub (fun _ h => List.mem_append_left _ (List.mem_append_left _ (List.mem_append_right _ h))) (by decide +kernel))) (goodIn_sub (fun _ h => List.mem_append_left _ (List.mem_append_right _ h)) (by decide +kernel))
set_option maxRecDepth 20000 in
theorem gL_law_L_scale : GoodIn wsL_law (va_wsS RL 97 yL_scale wsL_scale) := goodIn_app (goodIn_of _ (by decide +kernel)) ggL_law_L_scale
set_option maxRecDepth 20000 in
theorem ggL_law_X7_scale : GoodIn wsL_law wsX7_scale := goodIn_r _ [254, 177, 168, 241, 680, 681, 682, 683, 684, 685, 686, 687, 688, 689, 690, 691, 692, 693, 694, 695, 696, 697, 698, 699, 700, 701, 702, 703, 704, 705, 706, 707, 708, 709, 710, 711, 712, 713] (by decide +kernel) (by decide +kernel)
set_option maxRecDepth 20000 in
theorem gL_law_X7_scale : GoodIn wsL_law (wsV RL 100 RX7 yX7_scale wsX7_scale) := goodIn_app (goodIn_of _ (by decide +kernel)) ggL_law_X7_scale
set_option maxRecDepth 20000 in
theorem ggL_law_L_itself : GoodIn wsL_law wsL_itself := goodIn_ca (goodIn_r _ [257, 227, 258, 259, 260, 2, 261, 232, 233, 30, 262, 263, 264, 265, 266, 267, 268, 87, 85, 86, 88, 671, 672, 673, 674, 675, 676, 677, 678, 679, 732, 733, 734, 735] (by decide +kernel) (by decide +kernel)) (goodIn_sub (fun _ h => List.mem_append_left _ (List.mem_append_right _ h)) (by decide +kernel))
set_option maxRecDepth 20000 in
theorem gL_law_L_itself : GoodIn wsL_law (va_wsS RL 101 yL_itself wsL_itself) := goodIn_app (goodIn_of _ (by decide +kernel)) ggL_law_L_itself
set_option maxRecDepth 20000 in
theorem ggL_law_X7_itself : GoodIn wsL_law wsX7_itself := goodIn_r _ [272, 158, 168, 191, 192, 273, 274, 275, 5, 276, 177, 178, 169, 170, 680, 681, 682, 683, 684, 685, 686, 687, 688, 689, 690, 691, 692, 693, 694, 695, 696, 697, 698, 699, 700, 701, 702, 703, 704, 705, 706, 707, 708, 709, 710, 711, 712, 713] (by decide +kernel) (by decide +kernel)
set_option maxRecDepth 20000 in
theorem gL_law_X7_itself : GoodIn wsL_law (wsV RL 104 RX7 yX7_itself wsX7_itself) := goodIn_app (goodIn_of _ (by decide +kernel)) ggL_law_X7_itself
set_option maxRecDepth 20000 in
theorem ggL_law_L_vector : GoodIn wsL_law wsL_vector := goodIn_ca (goodIn_ca (goodIn_r _ [279, 197, 227, 280, 281, 282, 2, 283, 202, 203, 232, 233, 26, 30, 263, 262, 264, 204, 205, 206, 284, 285, 286, 25, 287, 76, 265, 266, 267, 268, 87, 85, 86, 88, 288, 289, 290, 291, 292, 293, 294, 295, 75, 296, 297, 298, 671, 672, 673, 674, 675, 676, 677, 678, 679, 732, 733, 734, 735, 729, 730, 731] (by decide +kernel) (by decide +kernel)) (goodIn_sub (fun _ h => List.mem_append_left _ (List.mem_append_left _ (List.mem_append_right _ h))) (by decide +kernel))) (goodIn_sub (fun _ h => List.mem_append_left _ (List.mem_append_right _ h)) (by decide +kernel))
set_option maxRecDepth 20000 in
theorem gL_law_L_vector : GoodIn wsL_law (va_wsS RL 105 yL_vector wsL_vector) := goodIn_app (goodIn_of _ (by decide +kernel)) ggL_law_L_vector
set_option maxRecDepth 20000 in
theorem ggL_law_X7_vector : GoodIn wsL_law wsX7_vector := goodIn_r _ [302, 154, 191, 177, 168, 155, 158, 192, 273, 274, 275, 5, 276, 178, 169, 170, 303, 304, 305, 680, 681, 682, 683, 684, 685, 686, 687, 688, 689, 690, 691, 692, 693, 694, 695, 696, 697, 698, 699, 700, 701, 702, 703, 704, 705, 706, 707, 708, 709, 710, 711, 712, 713] (by decide +kernel) (by decide +kernel)
set_option maxRecDepth 20000 in
theorem gL_law_X7_vector : GoodIn wsL_law (wsV RL 108 RX7 yX7_vector wsX7_vector) := goodIn_app (goodIn_of _ (by decide +kernel)) ggL_law_X7_vector
set_option maxRecDepth 20000 in
theorem ggL_law_L_level : GoodIn wsL_law wsL_level := goodIn_ca (goodIn_ca (goodIn_r _ [308, 197, 227, 309, 310, 311, 2, 312, 202, 203, 232, 233, 30, 313, 264, 204, 205, 206, 265, 266, 267, 268, 87, 85, 86, 88, 671, 672, 673, 674, 675, 676, 677, 678, 679, 732, 733, 734, 735] (by decide +kernel) (by decide +kernel)) (goodIn_sub (fun _ h => List.mem_append_left _ (List.mem_append_left _ (List.mem_append_right _ h))) (by decide +kernel))) (goodIn_sub (fun _ h => List.mem_append_left _ (List.mem_append_right _ h)) (by decide +kernel))
set_option maxRecDepth 20000 in
theorem gL_law_L_level : GoodIn wsL_law (va_wsS RL 109 yL_level wsL_level) := goodIn_app (goodIn_of _ (by decide +kernel)) ggL_law_L_level
set_option maxRecDepth 20000 in
theorem ggL_law_X7_level : GoodIn wsL_law wsX7_level := goodIn_r _ [317, 168, 159, 192, 273, 274, 275, 5, 276, 177, 178, 169, 170, 680, 681, 682, 683, 684, 685, 686, 687, 688, 689, 690, 691, 692, 693, 694, 695, 696, 697, 698, 699, 700, 701, 702, 703, 704, 705, 706, 707, 708, 709, 710, 711, 712, 713] (by decide +kernel) (by decide +kernel)
set_option maxRecDepth 20000 in
theorem gL_law_X7_level : GoodIn wsL_law (wsV RL 111 RX7 yX7_level wsX7_level) := goodIn_app (goodIn_of _ (by decide +kernel)) ggL_law_X7_level
set_option maxRecDepth 20000 in
theorem ggL_law_L_square : GoodIn wsL_law wsL_square := goodIn_ca (goodIn_r _ [320, 227, 321, 322, 323, 2, 324, 232, 233, 30, 263, 88, 265, 266, 267, 268, 87, 85, 86, 325, 326, 327, 328, 262, 329, 330, 331, 332, 26, 234, 22, 313, 333, 130, 131, 25, 132, 75, 133, 106, 107, 108, 334, 335, 336, 21, 337, 68, 70, 338, 67, 339, 340, 341, 342, 343, 344, 345, 346, 119, 347, 348, 349, 350, 351, 352, 353, 354, 71, 69, 355, 356, 357, 358, 359, 360, 361, 362, 363, 364, 365, 366, 367, 368, 369, 370, 18, 371, 372, 373, 374, 375, 376, 377, 378, 379, 51, 52, 380, 381, 382, 383, 384, 385, 386, 43, 387, 388, 389, 390, 391, 59, 61, 60, 392, 393, 394, 395, 396, 397, 398, 399, 205, 206, 400, 401, 402, 403, 404, 405, 406, 407, 408, 409, 410, 411, 412, 413, 414, 415, 416, 417, 128, 418, 419, 420, 421, 57, 422, 423, 424, 425, 426, 427, 428, 429, 430, 121, 122, 123, 114, 134, 135, 136, 29, 137, 80, 138, 139, 140, 141, 671, 672, 673, 674, 675, 676, 677, 678, 679, 732, 733, 734, 735, 729, 730, 731, 723, 724, 725, 726, 727, 728, 714, 715, 716, 717, 718, 719, 720, 721, 722, 736, 737, 738, 739, 740] (by decide +kernel) (by decide +kernel)) (goodIn_sub (fun _ h => List.mem_append_left _ (List.mem_append_right _ h)) (by decide +kernel))
set_option maxRecDepth 20000 in
theorem gL_law_L_square : GoodIn wsL_law (va_wsS RL 112 yL_square wsL_square) := goodIn_app (goodIn_of _ (by decide +kernel)) ggL_law_L_square
set_option maxRecDepth 20000 in
theorem ggL_law_X7_square : GoodIn wsL_law wsX7_square := goodIn_r _ [434, 158, 177, 191, 168, 242, 435, 160, 178, 273, 274, 275, 5, 276, 169, 170, 179, 180, 181, 182, 155, 436, 437, 438, 439, 159, 148, 241, 146, 161, 156, 440, 441, 442, 443, 444, 445, 446, 447, 448, 449, 162, 163, 450, 451, 452, 453, 147, 454, 455, 456, 457, 149, 458, 459, 460, 461, 462, 463, 464, 465, 240, 466, 467, 468, 469, 150, 151, 470, 471, 472, 473, 474, 475, 476, 477, 478, 479, 480, 183, 184, 185, 186, 187, 188, 189, 190, 192, 680, 681, 682, 683, 684, 685, 686, 687, 688, 689, 690, 691, 692, 693, 694, 695, 696, 697, 698, 699, 700, 701, 702, 703, 704, 705, 706, 707, 708, 709, 710, 711, 712, 713] (by decide +kernel) (by decide +kernel)
set_option maxRecDepth 20000 in
theorem gL_law_X7_square : GoodIn wsL_law (wsV RL 115 RX7 yX7_square wsX7_square) := goodIn_app (goodIn_of _ (by decide +kernel)) ggL_law_X7_square
set_option maxRecDepth 20000 in
theorem ggL_law_L_leave : GoodIn wsL_law wsL_leave := goodIn_ca (goodIn_ca (goodIn_r _ [483, 197, 227, 484, 485, 486, 2, 487, 202, 203, 232, 233, 87, 26, 234, 88, 22, 265, 266, 267, 268, 85, 86, 204, 205, 206, 488, 489, 490, 491, 30, 264, 333, 130, 131, 25, 132, 75, 133, 106, 107, 108, 404, 405, 406, 407, 18, 408, 409, 410, 411, 412, 413, 371, 372, 414, 415, 416, 417, 128, 375, 376, 377, 378, 379, 51, 52, 380, 381, 382, 383, 418, 419, 420, 43, 421, 57, 422, 423, 424, 425, 388, 389, 390, 391, 59, 61, 60, 341, 342, 392, 393, 394, 395, 396, 397, 398, 399, 430, 121, 122, 21, 123, 68, 114, 671, 672, 673, 674, 675, 676, 677, 678, 679, 732, 733, 734, 735, 729, 730, 731, 714, 715, 716, 717, 718, 719, 720, 721, 722, 736, 737, 738, 739, 740, 723, 724, 725, 726, 727, 728] (by decide +kernel) (by decide +kernel)) (goodIn_sub (fun _ h => List.mem_append_left _ (List.mem_append_left _ (List.mem_append_right _ h))) (by decide +kernel))) (goodIn_sub (fun _ h => List.mem_append_left _ (List.mem_append_right _ h)) (by decide +kernel))
set_option maxRecDepth 20000 in
theorem gL_law_L_leave : GoodIn wsL_law (va_wsS RL 116 yL_leave wsL_leave) := goodIn_app (goodIn_of _ (by decide +kernel)) ggL_law_L_leave
set_option maxRecDepth 20000 in
theorem ggL_law_X7_leave : GoodIn wsL_law wsX7_leave := goodIn_r _ [495, 177, 169, 170, 178, 242, 435, 192, 168, 163, 160, 179, 180, 181, 5, 182, 155, 183, 184, 185, 186, 156, 454, 455, 456, 457, 191, 149, 443, 444, 445, 458, 459, 460, 461, 462, 463, 464, 465, 240, 466, 467, 468, 469, 150, 151, 470, 471, 472, 473, 440, 441, 442, 474, 475, 476, 477, 478, 479, 480, 680, 681, 682, 683, 684, 685, 686, 687, 688, 689, 690, 691, 692, 693, 694, 695, 696, 697, 698, 699, 700, 701, 702, 703, 704, 705, 706, 707, 708, 709, 710, 711, 712, 713] (by decide +kernel) (by decide +kernel)
set_option maxRecDepth 20000 in
theorem gL_law_X7_leave : GoodIn wsL_law (wsV RL 119 RX7 yX7_leave wsX7_leave) := goodIn_app (goodIn_of _ (by decide +kernel)) ggL_law_X7_leave
set_option maxRecDepth 20000 in
theorem ggL_law_L_done : GoodIn wsL_law wsL_done := goodIn_ca (goodIn_r _ [498, 227, 499, 500, 501, 2, 502, 232, 233, 87, 18, 503, 88, 504, 265, 266, 267, 268, 85, 86, 505, 506, 507, 17, 508, 40, 39, 96, 509, 510, 511, 512, 37, 38, 94, 513, 514, 515, 516, 517, 518, 519, 36, 520, 50, 521, 522, 523, 43, 524, 59, 60, 61, 525, 526, 527, 528, 671, 672, 673, 674, 675, 676, 677, 678, 679, 714, 715, 716, 717, 718, 719, 720, 721, 722, 736, 737, 738, 739, 740] (by decide +kernel) (by decide +kernel)) (goodIn_sub (fun _ h => List.mem_append_left _ (List.mem_append_right _ h)) (by decide +kernel))
set_option maxRecDepth 20000 in
theorem gL_law_L_done : GoodIn wsL_law (va_wsS RL 120 yL_done wsL_done) := goodIn_app (goodIn_of _ (by decide +kernel)) ggL_law_L_done
set_option maxRecDepth 20000 in
theorem ggL_law_X7_done : GoodIn wsL_law wsX7_done := goodIn_r _ [532, 177, 178, 169, 170, 168, 149, 171, 172, 151, 150, 175, 176, 533, 534, 535, 5, 536, 152, 173, 680, 681, 682, 683, 684, 685, 686, 687, 688, 689, 690, 691, 692, 693, 694, 695, 696, 697, 698, 699, 700, 701, 702, 703, 704, 705, 706, 707, 708, 709, 710, 711, 712, 713] (by decide +kernel) (by decide +kernel)
set_option maxRecDepth 20000 in
theorem gL_law_X7_done : GoodIn wsL_law (wsV RL 122 RX7 yX7_done wsX7_done) := goodIn_app (goodIn_of _ (by decide +kernel)) ggL_law_X7_done
set_option maxRecDepth 20000 in
theorem ggL_law_L_last : GoodIn wsL_law wsL_last := goodIn_ca (goodIn_r _ [539, 227, 540, 541, 542, 2, 543, 232, 233, 87, 18, 504, 544, 514, 515, 17, 516, 94, 40, 38, 96, 517, 518, 519, 36, 520, 50, 521, 522, 523, 43, 524, 59, 60, 61, 525, 526, 527, 528, 671, 672, 673, 674, 675, 676, 677, 678, 679, 714, 715, 716, 717, 718, 719, 720, 721, 722, 736, 737, 738, 739, 740] (by decide +kernel) (by decide +kernel)) (goodIn_sub (fun _ h => List.mem_append_left _ (List.mem_append_right _ h)) (by decide +kernel))
set_option maxRecDepth 20000 in
theorem gL_law_L_last : GoodIn wsL_law (va_wsS RL 123 yL_last wsL_last) := goodIn_app (goodIn_of _ (by decide +kernel)) ggL_law_L_last
set_option maxRecDepth 20000 in
theorem ggL_law_X7_last : GoodIn wsL_law wsX7_last := goodIn_r _ [548, 177, 168, 171, 172, 151, 176, 533, 534, 535, 5, 536, 152, 173, 680, 681, 682, 683, 684, 685, 686, 687, 688, 689, 690, 691, 692, 693, 694, 695, 696, 697, 698, 699, 700, 701, 702, 703, 704, 705, 706, 707, 708, 709, 710, 711, 712, 713] (by decide +kernel) (by decide +kernel)
set_option maxRecDepth 20000 in
theorem gL_law_X7_last : GoodIn wsL_law (wsV RL 125 RX7 yX7_last wsX7_last) := goodIn_app (goodIn_of _ (by decide +kernel)) ggL_law_X7_last
set_option maxRecDepth 20000 in
theorem ggL_law_L_sample : GoodIn wsL_law wsL_sample := goodIn_ca (goodIn_ca (goodIn_r _ [551, 227, 552, 553, 554, 555, 2, 556, 232, 233, 557, 558, 18, 504, 559, 372, 204, 205, 206, 560, 397, 398, 43, 399, 60, 61, 561, 389, 390, 391, 59, 341, 342, 671, 672, 673, 674, 675, 676, 677, 678, 679, 714, 715, 716, 717, 718, 719, 720, 721, 722, 736, 737, 738, 739, 740] (by decide +kernel) (by decide +kernel)) (goodIn_sub (fun _ h => List.mem_append_left _ (List.mem_append_right _ h)) (by decide +kernel))) (goodIn_sub (fun _ h => List.mem_append_right _ h) (by decide +kernel))
set_option maxRecDepth 20000 in
theorem gL_law_L_sample : GoodIn wsL_law (va_wsS RL 126 yL_sample wsL_sample) := goodIn_app (goodIn_of _ (by decide +kernel)) ggL_law_L_sample
set_option maxRecDepth 20000 in
theorem ggL_law_X7_sample : GoodIn wsL_law wsX7_sample := goodIn_r _ [565, 173, 168, 152, 470, 471, 472, 5, 473, 169, 474, 475, 476, 477, 170, 478, 479, 480, 680, 681, 682, 683, 684, 685, 686, 687, 688, 689, 690, 691, 692, 693, 694, 695, 696, 697, 698, 699, 700, 701, 702, 703, 704, 705, 706, 707, 708, 709, 710, 711, 712, 713] (by decide +kernel) (by decide +kernel)
set_option maxRecDepth 20000 in
theorem gL_law_X7_sample : GoodIn wsL_law (wsV RL 128 RX7 yX7_sample wsX7_sample) := goodIn_app (goodIn_of _ (by decide +kernel)) ggL_law_X7_sample
set_option maxRecDepth 20000 in
theorem ggL_law_L_colour : GoodIn wsL_law wsL_colour := goodIn_ca (goodIn_ca (goodIn_r _ [568, 227, 552, 569, 570, 571, 2, 572, 232, 233, 557, 558, 18, 504, 559, 372, 560, 397, 398, 43, 399, 60, 61, 205, 206, 573, 574, 575, 36, 576, 50, 577, 578, 579, 580, 581, 582, 389, 390, 391, 59, 341, 342, 583, 584, 585, 586, 671, 672, 673, 674, 675, 676, 677, 678, 679, 714, 715, 716, 717, 718, 719, 720, 721, 722, 736, 737, 738, 739, 740] (by decide +kernel) (by decide +kernel)) (goodIn_sub (fun _ h => List.mem_append_left _ (List.mem_append_right _ h)) (by decide +kernel))) (goodIn_sub (fun _ h => List.mem_append_right _ h) (by decide +kernel))
set_option maxRecDepth 20000 in
theorem gL_law_L_colour : GoodIn wsL_law (va_wsS RL 129 yL_colour wsL_colour) := goodIn_app (goodIn_of _ (by decide +kernel)) ggL_law_L_colour
set_option maxRecDepth 20000 in
theorem ggL_law_X7_colour : GoodIn wsL_law wsX7_colour := goodIn_r _ [590, 173, 168, 152, 591, 592, 593, 594, 595, 596, 597, 470, 471, 472, 5, 473, 169, 474, 475, 476, 477, 170, 478, 479, 480, 598, 599, 600, 440, 441, 442, 680, 681, 682, 683, 684, 685, 686, 687, 688, 689, 690, 691, 692, 693, 694, 695, 696, 697, 698, 699, 700, 701, 702, 703, 704, 705, 706, 707, 708, 709, 710, 711, 712, 713] (by decide +kernel) (by decide +kernel)
set_option maxRecDepth 20000 in
theorem gL_law_X7_colour : GoodIn wsL_law (wsV RL 132 RX7 yX7_colour wsX7_colour) := goodIn_app (goodIn_of _ (by decide +kernel)) ggL_law_X7_colour
set_option maxRecDepth 20000 in
theorem ggL_law_L_light : GoodIn wsL_law wsL_light := goodIn_ca (goodIn_ca (goodIn_r _ [603, 197, 227, 604, 605, 606, 2, 607, 202, 203, 232, 233, 608, 609, 610, 611, 18, 504, 559, 372, 612, 613, 614, 43, 615, 60, 61, 59, 341, 342, 671, 672, 673, 674, 675, 676, 677, 678, 679, 714, 715, 716, 717, 718, 719, 720, 721, 722, 736, 737, 738, 739, 740] (by decide +kernel) (by decide +kernel)) (goodIn_sub (fun _ h => List.mem_append_left _ (List.mem_append_left _ (List.mem_append_right _ h))) (by decide +kernel))) (goodIn_sub (fun _ h => List.mem_append_left _ (List.mem_append_right _ h)) (by decide +kernel))
set_option maxRecDepth 20000 in
theorem gL_law_L_light : GoodIn wsL_law (va_wsS RL 134 yL_light wsL_light) := goodIn_app (goodIn_of _ (by decide +kernel)) ggL_law_L_light
set_option maxRecDepth 20000 in
theorem ggL_law_X7_light : GoodIn wsL_law wsX7_light := goodIn_r _ [619, 620, 621, 622, 623, 173, 168, 170, 169, 152, 478, 479, 5, 480, 598, 599, 600, 440, 441, 442, 680, 681, 682, 683, 684, 685, 686, 687, 688, 689, 690, 691, 692, 693, 694, 695, 696, 697, 698, 699, 700, 701, 702, 703, 704, 705, 706, 707, 708, 709, 710, 711, 712, 713] (by decide +kernel) (by decide +kernel)
set_option maxRecDepth 20000 in
theorem gL_law_X7_light : GoodIn wsL_law (wsV RL 137 RX7 yX7_light wsX7_light) := goodIn_app (goodIn_of _ (by decide +kernel)) ggL_law_X7_light
set_option maxRecDepth 20000 in
theorem ggL_law_L_keep : GoodIn wsL_law wsL_keep := goodIn_ca (goodIn_r _ [626, 227, 627, 628, 629, 2, 630, 232, 233, 18, 504, 631, 632, 633, 17, 634, 44, 40, 635, 93, 636, 522, 523, 43, 524, 59, 60, 61, 525, 526, 527, 528, 671, 672, 673, 674, 675, 676, 677, 678, 679, 714, 715, 716, 717, 718, 719, 720, 721, 722, 736, 737, 738, 739, 740] (by decide +kernel) (by decide +kernel)) (goodIn_sub (fun _ h => List.mem_append_left _ (List.mem_append_right _ h)) (by decide +kernel))
set_option maxRecDepth 20000 in
theorem gL_law_L_keep : GoodIn wsL_law (va_wsS RL 138 yL_keep wsL_keep) := goodIn_app (goodIn_of _ (by decide +kernel)) ggL_law_L_keep
set_option maxRecDepth 20000 in
theorem ggL_law_X7_keep : GoodIn wsL_law wsX7_keep := goodIn_r _ [640, 173, 168, 153, 152, 174, 680, 681, 682, 683, 684, 685, 686, 687, 688, 689, 690, 691, 692, 693, 694, 695, 696, 697, 698, 699, 700, 701, 702, 703, 704, 705, 706, 707, 708, 709, 710, 711, 712, 713] (by decide +kernel) (by decide +kernel)
set_option maxRecDepth 20000 in
theorem gL_law_X7_keep : GoodIn wsL_law (wsV RL 140 RX7 yX7_keep wsX7_keep) := goodIn_app (goodIn_of _ (by decide +kernel)) ggL_law_X7_keep
set_option maxRecDepth 20000 in
theorem ggL_law_L_error : GoodIn wsL_law wsL_error := goodIn_ca (goodIn_r _ [643, 227, 644, 645, 646, 2, 647, 232, 233, 18, 504, 648, 559, 372, 649, 650, 651, 652, 43, 653, 60, 61, 59, 671, 672, 673, 674, 675, 676, 677, 678, 679, 714, 715, 716, 717, 718, 719, 720, 721, 722, 736, 737, 738, 739, 740] (by decide +kernel) (by decide +kernel)) (goodIn_sub (fun _ h => List.mem_append_left _ (List.mem_append_right _ h)) (by decide +kernel))
set_option maxRecDepth 20000 in
theorem gL_law_L_error : GoodIn wsL_law (va_wsS RL 141 yL_error wsL_error) := goodIn_app (goodIn_of _ (by decide +kernel)) ggL_law_L_error
set_option maxRecDepth 20000 in
theorem ggL_law_X7_error : GoodIn wsL_law wsX7_error := goodIn_r _ [657, 173, 174, 168, 170, 169, 152, 153, 478, 479, 5, 480, 680, 681, 682, 683, 684, 685, 686, 687, 688, 689, 690, 691, 692, 693, 694, 695, 696, 697, 698, 699, 700, 701, 702, 703, 704, 705, 706, 707, 708, 709, 710, 711, 712, 713] (by decide +kernel) (by decide +kernel)
set_option maxRecDepth 20000 in
theorem gL_law_X7_error : GoodIn wsL_law (wsV RL 144 RX7 yX7_error wsX7_error) := goodIn_app (goodIn_of _ (by decide +kernel)) ggL_law_X7_error
set_option maxRecDepth 20000 in
theorem ggL_law_L_told : GoodIn wsL_law wsL_told := goodIn_ca (goodIn_r _ [660, 197, 661, 662, 663, 2, 664, 202, 203, 22, 665, 26, 666, 87, 88, 18, 503, 504, 204, 205, 206, 671, 672, 673, 674, 675, 676, 677, 678, 679, 723, 724, 725, 726, 727, 728, 729, 730, 731, 714, 715, 716, 717, 718, 719, 720, 721, 722] (by decide +kernel) (by decide +kernel)) (goodIn_sub (fun _ h => List.mem_append_left _ (List.mem_append_left _ (List.mem_append_right _ h))) (by decide +kernel))
set_option maxRecDepth 20000 in
theorem gL_law_L_told : GoodIn wsL_law (va_wsS RL 145 yL_told wsL_told) := goodIn_app (goodIn_of _ (by decide +kernel)) ggL_law_L_told
set_option maxRecDepth 20000 in
theorem ggL_law_X7_told : GoodIn wsL_law wsX7_told := goodIn_r _ [670, 168, 177, 178, 175, 176, 155, 156, 680, 681, 682, 683, 684, 685, 686, 687, 688, 689, 690, 691, 692, 693, 694, 695, 696, 697, 698, 699, 700, 701, 702, 703, 704, 705, 706, 707, 708, 709, 710, 711, 712, 713] (by decide +kernel) (by decide +kernel)
set_option maxRecDepth 20000 in
theorem gL_law_X7_told : GoodIn wsL_law (wsV RL 147 RX7 yX7_told wsX7_told) := goodIn_app (goodIn_of _ (by decide +kernel)) ggL_law_X7_told

