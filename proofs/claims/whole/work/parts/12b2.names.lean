set_option maxRecDepth 20000 in
theorem ggL_law_X3_init : GoodIn wsL_law wsX3_init := goodIn_r _ [9, 10, 11, 12, 13, 14, 15, 16, 17, 18, 19, 20, 21, 22, 23, 24, 25, 26, 27, 28, 29, 30, 31, 32, 33, 34, 35, 36, 37, 38, 39, 40, 41, 42, 43, 44, 45, 46, 47, 48, 49, 50, 51, 52, 53, 54, 682, 683, 684, 685, 686, 687, 688, 689, 690, 691, 692, 719, 720, 721, 722, 723, 724, 725] (by decide +kernel) (by decide +kernel)
set_option maxRecDepth 20000 in
theorem gL_law_X3_init : GoodIn wsL_law (wsX3_init) := ggL_law_X3_init
set_option maxRecDepth 20000 in
theorem ggL_law_X4_init : GoodIn wsL_law wsX4_init := goodIn_r _ [57, 58, 11, 12, 23, 59, 13, 60, 61, 62, 63, 64, 65, 66, 67, 68, 69, 70, 71, 72, 73, 74, 75, 76, 693, 694, 695, 696, 697, 698, 699, 700, 701, 702, 703, 704, 705, 706, 707, 708, 709, 710, 711, 712, 713, 714, 715, 716, 717, 718] (by decide +kernel) (by decide +kernel)
set_option maxRecDepth 20000 in
theorem gL_law_X4_init : GoodIn wsL_law (wsX4_init) := ggL_law_X4_init
set_option maxRecDepth 20000 in
theorem ggL_law_L_open : GoodIn wsL_law wsL_open := goodIn_ca (goodIn_r _ [80, 81, 82, 83, 84, 2, 85, 86, 87, 27, 682, 683, 684, 685, 686, 687, 688, 689, 690, 691, 692] (by decide +kernel) (by decide +kernel)) (goodIn_sub (fun _ h => List.mem_append_left _ (List.mem_append_left _ (List.mem_append_left _ (List.mem_append_right _ h)))) (by decide +kernel))
set_option maxRecDepth 20000 in
theorem gL_law_L_open : GoodIn wsL_law (va_wsS RL 90 yL_open wsL_open) := goodIn_app (goodIn_of _ (by decide +kernel)) ggL_law_L_open
set_option maxRecDepth 20000 in
theorem ggL_law_X4_open : GoodIn wsL_law wsX4_open := goodIn_r _ [91, 92, 93, 94, 95, 5, 96, 97, 693, 694, 695, 696, 697, 698, 699, 700, 701, 702, 703, 704, 705, 706, 707, 708, 709, 710, 711, 712, 713, 714, 715, 716, 717, 718] (by decide +kernel) (by decide +kernel)
set_option maxRecDepth 20000 in
theorem gL_law_X4_open : GoodIn wsL_law (wsV RL 95 RX4 yX4_open wsX4_open) := goodIn_app (goodIn_of _ (by decide +kernel)) ggL_law_X4_open
set_option maxRecDepth 20000 in
theorem ggL_law_X4_thrown : GoodIn wsL_law wsX4_thrown := goodIn_r _ [101, 97, 693, 694, 695, 696, 697, 698, 699, 700, 701, 702, 703, 704, 705, 706, 707, 708, 709, 710, 711, 712, 713, 714, 715, 716, 717, 718] (by decide +kernel) (by decide +kernel)
set_option maxRecDepth 20000 in
theorem gL_law_X4_thrown : GoodIn wsL_law (wsV RL 96 RX4 yX4_thrown wsX4_thrown) := goodIn_app (goodIn_of _ (by decide +kernel)) ggL_law_X4_thrown
set_option maxRecDepth 20000 in
theorem ggL_law_L_close : GoodIn wsL_law wsL_close := goodIn_ca (goodIn_ca (goodIn_r _ [104, 105, 81, 106, 107, 108, 2, 109, 86, 87, 24, 25, 110, 111, 112, 113, 114, 115, 27, 682, 683, 684, 685, 686, 687, 688, 689, 690, 691, 692] (by decide +kernel) (by decide +kernel)) (goodIn_sub (fun _ h => List.mem_append_left _ (List.mem_append_left _ (List.mem_append_left _ (List.mem_append_right _ h)))) (by decide +kernel))) (goodIn_sub (fun _ h => List.mem_append_left _ (List.mem_append_left _ (List.mem_append_right _ h))) (by decide +kernel))
set_option maxRecDepth 20000 in
theorem gL_law_L_close : GoodIn wsL_law (va_wsS RL 99 yL_close wsL_close) := goodIn_app (goodIn_of _ (by decide +kernel)) ggL_law_L_close
set_option maxRecDepth 20000 in
theorem ggL_law_X4_close : GoodIn wsL_law wsX4_close := goodIn_r _ [119, 59, 120, 67, 121, 122, 123, 5, 124, 92, 125, 126, 127, 93, 94, 95, 96, 97, 693, 694, 695, 696, 697, 698, 699, 700, 701, 702, 703, 704, 705, 706, 707, 708, 709, 710, 711, 712, 713, 714, 715, 716, 717, 718] (by decide +kernel) (by decide +kernel)
set_option maxRecDepth 20000 in
theorem gL_law_X4_close : GoodIn wsL_law (wsV RL 102 RX4 yX4_close wsX4_close) := goodIn_app (goodIn_of _ (by decide +kernel)) ggL_law_X4_close
set_option maxRecDepth 20000 in
theorem ggL_law_L_refer : GoodIn wsL_law wsL_refer := goodIn_ca (goodIn_ca (goodIn_r _ [130, 105, 81, 131, 132, 133, 2, 134, 86, 87, 28, 26, 135, 136, 137, 138, 114, 115, 139, 140, 141, 142, 22, 143, 144, 145, 21, 146, 147, 682, 683, 684, 685, 686, 687, 688, 689, 690, 691, 692, 723, 724, 725] (by decide +kernel) (by decide +kernel)) (goodIn_sub (fun _ h => List.mem_append_left _ (List.mem_append_left _ (List.mem_append_left _ (List.mem_append_right _ h)))) (by decide +kernel))) (goodIn_sub (fun _ h => List.mem_append_left _ (List.mem_append_left _ (List.mem_append_right _ h))) (by decide +kernel))
set_option maxRecDepth 20000 in
theorem gL_law_L_refer : GoodIn wsL_law (va_wsS RL 103 yL_refer wsL_refer) := goodIn_app (goodIn_of _ (by decide +kernel)) ggL_law_L_refer
set_option maxRecDepth 20000 in
theorem ggL_law_X4_refer : GoodIn wsL_law wsX4_refer := goodIn_r _ [151, 152, 60, 153, 154, 155, 5, 156, 157, 125, 126, 127, 93, 94, 95, 96, 97, 693, 694, 695, 696, 697, 698, 699, 700, 701, 702, 703, 704, 705, 706, 707, 708, 709, 710, 711, 712, 713, 714, 715, 716, 717, 718] (by decide +kernel) (by decide +kernel)
set_option maxRecDepth 20000 in
theorem gL_law_X4_refer : GoodIn wsL_law (wsV RL 105 RX4 yX4_refer wsX4_refer) := goodIn_app (goodIn_of _ (by decide +kernel)) ggL_law_X4_refer
set_option maxRecDepth 20000 in
theorem ggL_law_X3_wipe : GoodIn wsL_law wsX3_wipe := goodIn_r _ [161, 28, 682, 683, 684, 685, 686, 687, 688, 689, 690, 691, 692] (by decide +kernel) (by decide +kernel)
set_option maxRecDepth 20000 in
theorem gL_law_X3_wipe : GoodIn wsL_law (wsV RL 106 RX3 yX3_wipe wsX3_wipe) := goodIn_app (goodIn_of _ (by decide +kernel)) ggL_law_X3_wipe
set_option maxRecDepth 20000 in
theorem ggL_law_X4_wipe : GoodIn wsL_law wsX4_wipe := goodIn_r _ [165, 152, 166, 167, 168, 5, 169, 97, 693, 694, 695, 696, 697, 698, 699, 700, 701, 702, 703, 704, 705, 706, 707, 708, 709, 710, 711, 712, 713, 714, 715, 716, 717, 718] (by decide +kernel) (by decide +kernel)
set_option maxRecDepth 20000 in
theorem gL_law_X4_wipe : GoodIn wsL_law (wsV RL 109 RX4 yX4_wipe wsX4_wipe) := goodIn_app (goodIn_of _ (by decide +kernel)) ggL_law_X4_wipe
set_option maxRecDepth 20000 in
theorem ggL_law_L_point : GoodIn wsL_law wsL_point := goodIn_ca (goodIn_ca (goodIn_ca (goodIn_r _ [172, 105, 173, 81, 174, 175, 176, 2, 177, 110, 111, 112, 113, 114, 115, 27, 178, 179, 180, 181, 182, 183, 184, 185, 186, 187, 86, 87, 24, 29, 188, 189, 190, 191, 22, 143, 144, 145, 21, 146, 147, 192, 193, 194, 195, 15, 16, 17, 14, 32, 33, 34, 35, 11, 12, 36, 37, 38, 39, 196, 197, 198, 199, 200, 201, 202, 203, 204, 205, 206, 25, 207, 208, 209, 30, 210, 211, 212, 213, 214, 215, 216, 217, 218, 219, 220, 221, 222, 223, 224, 225, 226, 227, 228, 229, 230, 231, 44, 232, 233, 234, 235, 236, 237, 238, 239, 240, 241, 242, 243, 43, 244, 245, 246, 247, 248, 249, 250, 251, 252, 253, 254, 255, 256, 257, 258, 259, 260, 261, 262, 263, 264, 265, 266, 267, 268, 269, 270, 271, 272, 273, 274, 275, 276, 277, 682, 683, 684, 685, 686, 687, 688, 689, 690, 691, 692, 723, 724, 725, 719, 720, 721, 722, 726, 727, 728, 729, 730, 731, 732, 733] (by decide +kernel) (by decide +kernel)) (goodIn_sub (fun _ h => List.mem_append_left _ (List.mem_append_left _ (List.mem_append_right _ h))) (by decide +kernel))) (goodIn_sub (fun _ h => List.mem_append_left _ (List.mem_append_right _ h)) (by decide +kernel))) (goodIn_sub (fun _ h => List.mem_append_left _ (List.mem_append_left _ (List.mem_append_left _ (List.mem_append_right _ h)))) (by decide +kernel))
set_option maxRecDepth 20000 in
theorem gL_law_L_point : GoodIn wsL_law (va_wsS RL 110 yL_point wsL_point) := goodIn_app (goodIn_of _ (by decide +kernel)) ggL_law_L_point
set_option maxRecDepth 20000 in
theorem ggL_law_X4_point : GoodIn wsL_law wsX4_point := goodIn_r _ [281, 157, 61, 282, 121, 122, 123, 5, 124, 92, 125, 126, 127, 283, 284, 285, 286, 59, 93, 94, 95, 96, 97, 287, 288, 289, 290, 64, 120, 66, 63, 62, 65, 67, 68, 291, 69, 70, 71, 72, 73, 76, 693, 694, 695, 696, 697, 698, 699, 700, 701, 702, 703, 704, 705, 706, 707, 708, 709, 710, 711, 712, 713, 714, 715, 716, 717, 718] (by decide +kernel) (by decide +kernel)
set_option maxRecDepth 20000 in
theorem gL_law_X4_point : GoodIn wsL_law (wsV RL 113 RX4 yX4_point wsX4_point) := goodIn_app (goodIn_of _ (by decide +kernel)) ggL_law_X4_point
set_option maxRecDepth 20000 in
theorem ggL_law_L_make : GoodIn wsL_law wsL_make := goodIn_ca (goodIn_ca (goodIn_ca (goodIn_r _ [294, 105, 173, 81, 295, 296, 297, 2, 298, 182, 183, 299, 110, 111, 112, 113, 114, 115, 27, 184, 185, 186, 187, 86, 87, 24, 29, 188, 189, 190, 191, 22, 143, 144, 145, 21, 146, 147, 300, 301, 302, 303, 15, 16, 17, 26, 28, 304, 305, 260, 306, 307, 308, 309, 310, 311, 312, 13, 271, 272, 246, 273, 274, 275, 276, 277, 32, 33, 34, 35, 11, 12, 36, 37, 38, 39, 313, 314, 315, 316, 317, 318, 319, 320, 321, 322, 323, 324, 325, 139, 140, 141, 142, 326, 327, 328, 329, 330, 331, 332, 333, 334, 335, 336, 337, 338, 339, 340, 341, 44, 196, 197, 198, 199, 200, 201, 202, 203, 204, 205, 206, 25, 207, 208, 209, 30, 210, 211, 212, 213, 214, 215, 216, 217, 218, 219, 220, 221, 222, 223, 224, 225, 226, 227, 228, 229, 230, 231, 232, 233, 234, 235, 236, 237, 238, 239, 240, 241, 242, 243, 43, 244, 245, 247, 248, 249, 250, 251, 252, 253, 254, 255, 256, 257, 258, 259, 261, 262, 263, 264, 265, 266, 267, 268, 269, 270, 719, 720, 721, 722, 682, 683, 684, 685, 686, 687, 688, 689, 690, 691, 692, 723, 724, 725, 726, 727, 728, 729, 730, 731, 732, 733] (by decide +kernel) (by decide +kernel)) (goodIn_sub (fun _ h => List.mem_append_left _ (List.mem_append_right _ h)) (by decide +kernel))) (goodIn_sub (fun _ h => List.mem_append_left _ (List.mem_append_left _ (List.mem_append_right _ h))) (by decide +kernel))) (goodIn_sub (fun _ h => List.mem_append_left _ (List.mem_append_left _ (List.mem_append_left _ (List.mem_append_right _ h)))) (by decide +kernel))
set_option maxRecDepth 20000 in
theorem gL_law_L_make : GoodIn wsL_law (va_wsS RL 114 yL_make wsL_make) := goodIn_app (goodIn_of _ (by decide +kernel)) ggL_law_L_make
set_option maxRecDepth 20000 in
theorem ggL_law_X4_make : GoodIn wsL_law wsX4_make := goodIn_r _ [345, 157, 61, 121, 122, 123, 5, 124, 92, 125, 126, 127, 283, 284, 285, 286, 59, 93, 94, 95, 96, 97, 346, 347, 348, 349, 152, 282, 76, 60, 350, 351, 352, 353, 354, 355, 356, 357, 69, 62, 287, 288, 289, 290, 64, 120, 66, 63, 65, 67, 68, 291, 70, 71, 72, 73, 693, 694, 695, 696, 697, 698, 699, 700, 701, 702, 703, 704, 705, 706, 707, 708, 709, 710, 711, 712, 713, 714, 715, 716, 717, 718] (by decide +kernel) (by decide +kernel)
set_option maxRecDepth 20000 in
theorem gL_law_X4_make : GoodIn wsL_law (wsV RL 117 RX4 yX4_make wsX4_make) := goodIn_app (goodIn_of _ (by decide +kernel)) ggL_law_X4_make
set_option maxRecDepth 20000 in
theorem ggL_law_L_move : GoodIn wsL_law wsL_move := goodIn_ca (goodIn_ca (goodIn_ca (goodIn_r _ [360, 105, 173, 81, 361, 362, 363, 2, 364, 182, 183, 22, 317, 318, 110, 111, 112, 113, 114, 115, 27, 135, 136, 137, 138, 139, 140, 141, 142, 143, 144, 145, 21, 146, 147, 326, 327, 328, 329, 330, 331, 332, 333, 334, 335, 336, 337, 338, 339, 340, 341, 44, 178, 179, 180, 181, 184, 185, 186, 187, 86, 87, 24, 29, 192, 193, 194, 195, 15, 16, 17, 14, 32, 33, 34, 35, 11, 12, 36, 37, 38, 39, 365, 366, 367, 368, 323, 324, 325, 369, 370, 371, 372, 373, 299, 374, 375, 376, 377, 378, 379, 380, 381, 382, 383, 313, 314, 315, 316, 319, 320, 321, 322, 384, 385, 386, 387, 388, 389, 390, 391, 392, 393, 394, 395, 396, 397, 398, 203, 204, 205, 206, 25, 207, 208, 209, 30, 210, 211, 212, 213, 214, 215, 216, 217, 218, 219, 682, 683, 684, 685, 686, 687, 688, 689, 690, 691, 692, 726, 727, 723, 724, 725, 719, 720, 721, 722, 728, 729, 730, 731, 732, 733] (by decide +kernel) (by decide +kernel)) (goodIn_sub (fun _ h => List.mem_append_left _ (List.mem_append_right _ h)) (by decide +kernel))) (goodIn_sub (fun _ h => List.mem_append_left _ (List.mem_append_left _ (List.mem_append_right _ h))) (by decide +kernel))) (goodIn_sub (fun _ h => List.mem_append_left _ (List.mem_append_left _ (List.mem_append_left _ (List.mem_append_right _ h)))) (by decide +kernel))
set_option maxRecDepth 20000 in
theorem gL_law_L_move : GoodIn wsL_law (va_wsS RL 118 yL_move wsL_move) := goodIn_app (goodIn_of _ (by decide +kernel)) ggL_law_L_move
set_option maxRecDepth 20000 in
theorem ggL_law_X4_move : GoodIn wsL_law wsX4_move := goodIn_r _ [402, 61, 282, 63, 121, 122, 123, 5, 124, 92, 125, 126, 127, 153, 154, 155, 156, 157, 283, 284, 285, 286, 59, 93, 94, 95, 96, 97, 354, 355, 356, 357, 69, 62, 287, 288, 289, 290, 64, 120, 66, 65, 67, 68, 291, 70, 71, 72, 73, 76, 693, 694, 695, 696, 697, 698, 699, 700, 701, 702, 703, 704, 705, 706, 707, 708, 709, 710, 711, 712, 713, 714, 715, 716, 717, 718] (by decide +kernel) (by decide +kernel)
set_option maxRecDepth 20000 in
theorem gL_law_X4_move : GoodIn wsL_law (wsV RL 121 RX4 yX4_move wsX4_move) := goodIn_app (goodIn_of _ (by decide +kernel)) ggL_law_X4_move
set_option maxRecDepth 20000 in
theorem ggL_law_L_change : GoodIn wsL_law wsL_change := goodIn_ca (goodIn_ca (goodIn_ca (goodIn_r _ [405, 105, 173, 81, 406, 407, 408, 2, 409, 182, 183, 22, 317, 318, 110, 111, 112, 113, 114, 115, 27, 135, 136, 137, 138, 139, 140, 141, 142, 143, 144, 145, 21, 146, 147, 326, 327, 328, 329, 330, 331, 332, 333, 334, 335, 336, 337, 338, 339, 340, 341, 44, 184, 185, 186, 187, 86, 87, 24, 29, 300, 301, 302, 303, 15, 16, 17, 26, 28, 304, 305, 260, 306, 307, 308, 309, 310, 311, 312, 13, 271, 272, 246, 273, 274, 275, 276, 277, 32, 33, 34, 35, 11, 12, 36, 37, 38, 39, 365, 366, 367, 368, 323, 324, 325, 369, 370, 371, 372, 373, 299, 374, 375, 376, 377, 378, 379, 380, 381, 382, 383, 313, 314, 315, 316, 319, 320, 321, 322, 384, 385, 386, 387, 388, 389, 390, 391, 392, 393, 394, 395, 396, 397, 398, 203, 204, 205, 206, 25, 207, 208, 209, 30, 210, 211, 212, 213, 214, 215, 216, 217, 218, 219, 682, 683, 684, 685, 686, 687, 688, 689, 690, 691, 692, 726, 727, 723, 724, 725, 719, 720, 721, 722, 728, 729, 730, 731, 732, 733] (by decide +kernel) (by decide +kernel)) (goodIn_sub (fun _ h => List.mem_append_left _ (List.mem_append_right _ h)) (by decide +kernel))) (goodIn_sub (fun _ h => List.mem_append_left _ (List.mem_append_left _ (List.mem_append_right _ h))) (by decide +kernel))) (goodIn_sub (fun _ h => List.mem_append_left _ (List.mem_append_left _ (List.mem_append_left _ (List.mem_append_right _ h)))) (by decide +kernel))
set_option maxRecDepth 20000 in
theorem gL_law_L_change : GoodIn wsL_law (va_wsS RL 122 yL_change wsL_change) := goodIn_app (goodIn_of _ (by decide +kernel)) ggL_law_L_change
set_option maxRecDepth 20000 in
theorem ggL_law_X4_change : GoodIn wsL_law wsX4_change := goodIn_r _ [413, 61, 63, 121, 122, 123, 5, 124, 92, 125, 126, 127, 153, 154, 155, 156, 157, 283, 284, 285, 286, 59, 93, 94, 95, 96, 97, 346, 347, 348, 349, 152, 282, 76, 60, 354, 355, 356, 357, 69, 62, 350, 351, 352, 353, 414, 415, 416, 417, 74, 418, 419, 420, 421, 72, 73, 287, 288, 289, 290, 64, 120, 66, 65, 67, 68, 291, 70, 71, 693, 694, 695, 696, 697, 698, 699, 700, 701, 702, 703, 704, 705, 706, 707, 708, 709, 710, 711, 712, 713, 714, 715, 716, 717, 718] (by decide +kernel) (by decide +kernel)
set_option maxRecDepth 20000 in
theorem gL_law_X4_change : GoodIn wsL_law (wsV RL 124 RX4 yX4_change wsX4_change) := goodIn_app (goodIn_of _ (by decide +kernel)) ggL_law_X4_change
set_option maxRecDepth 20000 in
theorem ggL_law_L_delete : GoodIn wsL_law wsL_delete := goodIn_ca (goodIn_ca (goodIn_r _ [424, 105, 81, 425, 426, 427, 2, 428, 18, 110, 111, 112, 113, 114, 115, 27, 135, 136, 137, 138, 139, 140, 141, 142, 22, 143, 144, 145, 21, 146, 147, 184, 185, 186, 187, 86, 87, 24, 29, 365, 366, 367, 368, 317, 323, 324, 325, 369, 326, 327, 328, 329, 330, 331, 332, 333, 334, 335, 336, 337, 338, 339, 340, 341, 44, 370, 371, 372, 373, 318, 299, 374, 375, 376, 377, 378, 379, 380, 381, 382, 383, 313, 314, 315, 316, 319, 320, 321, 322, 384, 385, 386, 387, 388, 389, 390, 391, 392, 393, 394, 395, 396, 397, 398, 203, 204, 205, 206, 25, 207, 208, 209, 30, 210, 211, 212, 213, 11, 12, 214, 215, 216, 217, 218, 219, 682, 683, 684, 685, 686, 687, 688, 689, 690, 691, 692, 723, 724, 725, 726, 727, 728, 729, 730, 731, 732, 733, 719, 720, 721, 722] (by decide +kernel) (by decide +kernel)) (goodIn_sub (fun _ h => List.mem_append_left _ (List.mem_append_left _ (List.mem_append_right _ h))) (by decide +kernel))) (goodIn_sub (fun _ h => List.mem_append_left _ (List.mem_append_left _ (List.mem_append_left _ (List.mem_append_right _ h)))) (by decide +kernel))
set_option maxRecDepth 20000 in
theorem gL_law_L_delete : GoodIn wsL_law (va_wsS RL 125 yL_delete wsL_delete) := goodIn_app (goodIn_of _ (by decide +kernel)) ggL_law_L_delete
set_option maxRecDepth 20000 in
theorem ggL_law_X4_delete : GoodIn wsL_law wsX4_delete := goodIn_r _ [432, 63, 121, 122, 123, 5, 124, 92, 125, 126, 127, 153, 154, 155, 156, 157, 283, 284, 285, 286, 59, 93, 94, 95, 96, 97, 354, 355, 356, 357, 69, 62, 433, 434, 435, 436, 418, 419, 420, 421, 72, 73, 287, 288, 289, 290, 64, 120, 66, 65, 67, 68, 291, 70, 71, 282, 76, 693, 694, 695, 696, 697, 698, 699, 700, 701, 702, 703, 704, 705, 706, 707, 708, 709, 710, 711, 712, 713, 714, 715, 716, 717, 718] (by decide +kernel) (by decide +kernel)
set_option maxRecDepth 20000 in
theorem gL_law_X4_delete : GoodIn wsL_law (wsV RL 127 RX4 yX4_delete wsX4_delete) := goodIn_app (goodIn_of _ (by decide +kernel)) ggL_law_X4_delete
set_option maxRecDepth 20000 in
theorem ggL_law_L_undo : GoodIn wsL_law wsL_undo := goodIn_ca (goodIn_ca (goodIn_r _ [439, 105, 81, 440, 441, 442, 2, 443, 86, 87, 24, 22, 110, 111, 112, 113, 114, 115, 27, 184, 185, 186, 187, 29, 143, 144, 145, 21, 146, 147, 444, 445, 446, 447, 317, 323, 448, 449, 326, 327, 328, 329, 330, 331, 332, 333, 334, 335, 336, 337, 338, 339, 340, 341, 44, 450, 451, 452, 453, 454, 455, 456, 457, 18, 324, 370, 371, 372, 373, 325, 318, 299, 374, 375, 376, 377, 378, 379, 380, 381, 382, 383, 313, 314, 315, 316, 319, 320, 321, 322, 139, 140, 141, 142, 384, 385, 386, 387, 388, 389, 390, 391, 392, 393, 394, 395, 396, 397, 398, 369, 203, 204, 205, 206, 25, 207, 208, 209, 30, 210, 211, 212, 213, 11, 12, 214, 215, 216, 217, 218, 219, 682, 683, 684, 685, 686, 687, 688, 689, 690, 691, 692, 723, 724, 725, 726, 727, 728, 729, 730, 731, 732, 733, 719, 720, 721, 722] (by decide +kernel) (by decide +kernel)) (goodIn_sub (fun _ h => List.mem_append_left _ (List.mem_append_left _ (List.mem_append_left _ (List.mem_append_right _ h)))) (by decide +kernel))) (goodIn_sub (fun _ h => List.mem_append_left _ (List.mem_append_left _ (List.mem_append_right _ h))) (by decide +kernel))
set_option maxRecDepth 20000 in
theorem gL_law_L_undo : GoodIn wsL_law (va_wsS RL 128 yL_undo wsL_undo) := goodIn_app (goodIn_of _ (by decide +kernel)) ggL_law_L_undo
set_option maxRecDepth 20000 in
theorem ggL_law_X4_undo : GoodIn wsL_law wsX4_undo := goodIn_r _ [461, 59, 157, 67, 62, 121, 122, 123, 5, 124, 92, 125, 126, 127, 93, 94, 95, 96, 97, 462, 463, 464, 465, 120, 64, 466, 467, 468, 469, 66, 69, 282, 61, 71, 433, 434, 435, 436, 418, 419, 420, 421, 72, 73, 354, 355, 356, 357, 470, 471, 472, 473, 76, 350, 351, 352, 353, 414, 415, 416, 417, 74, 287, 288, 289, 290, 63, 65, 68, 291, 70, 693, 694, 695, 696, 697, 698, 699, 700, 701, 702, 703, 704, 705, 706, 707, 708, 709, 710, 711, 712, 713, 714, 715, 716, 717, 718] (by decide +kernel) (by decide +kernel)
set_option maxRecDepth 20000 in
theorem gL_law_X4_undo : GoodIn wsL_law (wsV RL 130 RX4 yX4_undo wsX4_undo) := goodIn_app (goodIn_of _ (by decide +kernel)) ggL_law_X4_undo
set_option maxRecDepth 20000 in
theorem ggL_law_X3_things : GoodIn wsL_law wsX3_things := goodIn_r _ [477, 22, 143, 144, 145, 21, 146, 147, 682, 683, 684, 685, 686, 687, 688, 689, 690, 691, 692, 723, 724, 725] (by decide +kernel) (by decide +kernel)
set_option maxRecDepth 20000 in
theorem gL_law_X3_things : GoodIn wsL_law (wsV RL 131 RX3 yX3_things wsX3_things) := goodIn_app (goodIn_of _ (by decide +kernel)) ggL_law_X3_things
set_option maxRecDepth 20000 in
theorem ggL_law_X4_things : GoodIn wsL_law wsX4_things := goodIn_r _ [481, 157, 166, 167, 168, 5, 169, 97, 693, 694, 695, 696, 697, 698, 699, 700, 701, 702, 703, 704, 705, 706, 707, 708, 709, 710, 711, 712, 713, 714, 715, 716, 717, 718] (by decide +kernel) (by decide +kernel)
set_option maxRecDepth 20000 in
theorem gL_law_X4_things : GoodIn wsL_law (wsV RL 134 RX4 yX4_things wsX4_things) := goodIn_app (goodIn_of _ (by decide +kernel)) ggL_law_X4_things
set_option maxRecDepth 20000 in
theorem ggL_law_L_latest : GoodIn wsL_law wsL_latest := goodIn_ca (goodIn_r _ [484, 105, 485, 486, 487, 2, 488, 22, 317, 323, 369, 135, 136, 137, 138, 114, 115, 139, 140, 141, 142, 143, 144, 145, 21, 146, 147, 326, 327, 328, 329, 330, 331, 332, 333, 334, 335, 336, 337, 338, 339, 340, 341, 44, 682, 683, 684, 685, 686, 687, 688, 689, 690, 691, 692, 726, 727, 728, 729, 730, 731, 732, 733, 723, 724, 725] (by decide +kernel) (by decide +kernel)) (goodIn_sub (fun _ h => List.mem_append_left _ (List.mem_append_left _ (List.mem_append_right _ h))) (by decide +kernel))
set_option maxRecDepth 20000 in
theorem gL_law_L_latest : GoodIn wsL_law (va_wsS RL 135 yL_latest wsL_latest) := goodIn_app (goodIn_of _ (by decide +kernel)) ggL_law_L_latest
set_option maxRecDepth 20000 in
theorem ggL_law_X4_latest : GoodIn wsL_law wsX4_latest := goodIn_r _ [492, 63, 153, 154, 155, 5, 156, 157, 125, 126, 127, 93, 94, 95, 96, 97, 693, 694, 695, 696, 697, 698, 699, 700, 701, 702, 703, 704, 705, 706, 707, 708, 709, 710, 711, 712, 713, 714, 715, 716, 717, 718] (by decide +kernel) (by decide +kernel)
set_option maxRecDepth 20000 in
theorem gL_law_X4_latest : GoodIn wsL_law (wsV RL 137 RX4 yX4_latest wsX4_latest) := goodIn_app (goodIn_of _ (by decide +kernel)) ggL_law_X4_latest
set_option maxRecDepth 20000 in
theorem ggL_law_L_isThere : GoodIn wsL_law wsL_isThere := goodIn_ca (goodIn_r _ [495, 105, 496, 497, 498, 2, 499, 135, 136, 137, 138, 114, 115, 139, 140, 141, 142, 22, 143, 144, 145, 21, 146, 147, 319, 320, 321, 322, 317, 323, 324, 325, 326, 327, 328, 329, 330, 331, 332, 333, 334, 335, 336, 337, 338, 339, 340, 341, 44, 682, 683, 684, 685, 686, 687, 688, 689, 690, 691, 692, 723, 724, 725, 726, 727, 728, 729, 730, 731, 732, 733, 719, 720, 721, 722] (by decide +kernel) (by decide +kernel)) (goodIn_sub (fun _ h => List.mem_append_left _ (List.mem_append_left _ (List.mem_append_right _ h))) (by decide +kernel))
set_option maxRecDepth 20000 in
theorem gL_law_L_isThere : GoodIn wsL_law (va_wsS RL 138 yL_isThere wsL_isThere) := goodIn_app (goodIn_of _ (by decide +kernel)) ggL_law_L_isThere
set_option maxRecDepth 20000 in
theorem ggL_law_X4_isThere : GoodIn wsL_law wsX4_isThere := goodIn_r _ [503, 153, 154, 155, 5, 156, 157, 125, 126, 127, 93, 94, 95, 96, 97, 354, 355, 356, 357, 69, 62, 693, 694, 695, 696, 697, 698, 699, 700, 701, 702, 703, 704, 705, 706, 707, 708, 709, 710, 711, 712, 713, 714, 715, 716, 717, 718] (by decide +kernel) (by decide +kernel)
set_option maxRecDepth 20000 in
theorem gL_law_X4_isThere : GoodIn wsL_law (wsV RL 140 RX4 yX4_isThere wsX4_isThere) := goodIn_app (goodIn_of _ (by decide +kernel)) ggL_law_X4_isThere
set_option maxRecDepth 20000 in
theorem ggL_law_L_whereIs : GoodIn wsL_law wsL_whereIs := goodIn_ca (goodIn_ca (goodIn_r _ [506, 105, 507, 508, 509, 510, 2, 511, 512, 513, 22, 317, 323, 324, 318, 325, 514, 515, 135, 136, 137, 138, 114, 115, 139, 140, 141, 142, 143, 144, 145, 21, 146, 147, 326, 327, 328, 329, 330, 331, 332, 333, 334, 335, 336, 337, 338, 339, 340, 341, 44, 682, 683, 684, 685, 686, 687, 688, 689, 690, 691, 692, 726, 727, 728, 729, 730, 731, 732, 733, 719, 720, 721, 722, 723, 724, 725] (by decide +kernel) (by decide +kernel)) (goodIn_sub (fun _ h => List.mem_append_right _ h) (by decide +kernel))) (goodIn_sub (fun _ h => List.mem_append_left _ (List.mem_append_left _ (List.mem_append_right _ h))) (by decide +kernel))
set_option maxRecDepth 20000 in
theorem gL_law_L_whereIs : GoodIn wsL_law (va_wsS RL 141 yL_whereIs wsL_whereIs) := goodIn_app (goodIn_of _ (by decide +kernel)) ggL_law_L_whereIs
set_option maxRecDepth 20000 in
theorem ggL_law_X4_whereIs : GoodIn wsL_law wsX4_whereIs := goodIn_r _ [519, 61, 71, 62, 153, 154, 155, 5, 156, 157, 125, 126, 127, 354, 355, 356, 357, 69, 93, 94, 95, 96, 97, 693, 694, 695, 696, 697, 698, 699, 700, 701, 702, 703, 704, 705, 706, 707, 708, 709, 710, 711, 712, 713, 714, 715, 716, 717, 718] (by decide +kernel) (by decide +kernel)
set_option maxRecDepth 20000 in
theorem gL_law_X4_whereIs : GoodIn wsL_law (wsV RL 143 RX4 yX4_whereIs wsX4_whereIs) := goodIn_app (goodIn_of _ (by decide +kernel)) ggL_law_X4_whereIs
set_option maxRecDepth 20000 in
theorem ggL_law_L_members : GoodIn wsL_law wsL_members := goodIn_ca (goodIn_r _ [522, 105, 523, 524, 525, 2, 526, 22, 317, 323, 324, 299, 135, 136, 137, 138, 114, 115, 139, 140, 141, 142, 143, 144, 145, 21, 146, 147, 326, 327, 328, 329, 330, 331, 332, 333, 334, 335, 336, 337, 338, 339, 340, 341, 44, 682, 683, 684, 685, 686, 687, 688, 689, 690, 691, 692, 726, 727, 728, 729, 730, 731, 732, 733, 719, 720, 721, 722, 723, 724, 725] (by decide +kernel) (by decide +kernel)) (goodIn_sub (fun _ h => List.mem_append_left _ (List.mem_append_left _ (List.mem_append_right _ h))) (by decide +kernel))
set_option maxRecDepth 20000 in
theorem gL_law_L_members : GoodIn wsL_law (va_wsS RL 144 yL_members wsL_members) := goodIn_app (goodIn_of _ (by decide +kernel)) ggL_law_L_members
set_option maxRecDepth 20000 in
theorem ggL_law_X4_members : GoodIn wsL_law wsX4_members := goodIn_r _ [530, 72, 62, 153, 154, 155, 5, 156, 157, 125, 126, 127, 93, 94, 95, 96, 97, 693, 694, 695, 696, 697, 698, 699, 700, 701, 702, 703, 704, 705, 706, 707, 708, 709, 710, 711, 712, 713, 714, 715, 716, 717, 718] (by decide +kernel) (by decide +kernel)
set_option maxRecDepth 20000 in
theorem gL_law_X4_members : GoodIn wsL_law (wsV RL 146 RX4 yX4_members wsX4_members) := goodIn_app (goodIn_of _ (by decide +kernel)) ggL_law_X4_members
set_option maxRecDepth 20000 in
theorem ggL_law_L_usedBy : GoodIn wsL_law wsL_usedBy := goodIn_ca (goodIn_r _ [533, 105, 534, 535, 536, 2, 537, 135, 136, 137, 138, 114, 115, 139, 140, 141, 142, 22, 143, 144, 145, 21, 146, 147, 374, 375, 376, 377, 378, 379, 380, 317, 323, 324, 299, 326, 327, 328, 329, 330, 331, 332, 333, 334, 335, 336, 337, 338, 339, 340, 341, 44, 381, 382, 383, 538, 539, 540, 541, 542, 543, 544, 682, 683, 684, 685, 686, 687, 688, 689, 690, 691, 692, 723, 724, 725, 726, 727, 728, 729, 730, 731, 732, 733, 719, 720, 721, 722] (by decide +kernel) (by decide +kernel)) (goodIn_sub (fun _ h => List.mem_append_left _ (List.mem_append_left _ (List.mem_append_right _ h))) (by decide +kernel))
set_option maxRecDepth 20000 in
theorem gL_law_L_usedBy : GoodIn wsL_law (va_wsS RL 147 yL_usedBy wsL_usedBy) := goodIn_app (goodIn_of _ (by decide +kernel)) ggL_law_L_usedBy
set_option maxRecDepth 20000 in
theorem ggL_law_X4_usedBy : GoodIn wsL_law wsX4_usedBy := goodIn_r _ [548, 153, 154, 155, 5, 156, 157, 125, 126, 127, 93, 94, 95, 96, 97, 433, 434, 435, 436, 418, 419, 420, 421, 72, 62, 73, 354, 355, 356, 357, 69, 693, 694, 695, 696, 697, 698, 699, 700, 701, 702, 703, 704, 705, 706, 707, 708, 709, 710, 711, 712, 713, 714, 715, 716, 717, 718] (by decide +kernel) (by decide +kernel)
set_option maxRecDepth 20000 in
theorem gL_law_X4_usedBy : GoodIn wsL_law (wsV RL 149 RX4 yX4_usedBy wsX4_usedBy) := goodIn_app (goodIn_of _ (by decide +kernel)) ggL_law_X4_usedBy
set_option maxRecDepth 20000 in
theorem ggL_law_L_hide : GoodIn wsL_law wsL_hide := goodIn_ca (goodIn_ca (goodIn_r _ [551, 105, 81, 552, 553, 554, 2, 555, 86, 87, 22, 317, 323, 369, 556, 135, 136, 137, 138, 114, 115, 139, 140, 141, 142, 143, 144, 145, 21, 146, 147, 557, 558, 559, 560, 449, 326, 327, 328, 329, 330, 331, 332, 333, 334, 335, 336, 337, 338, 339, 340, 341, 44, 561, 562, 563, 564, 682, 683, 684, 685, 686, 687, 688, 689, 690, 691, 692, 726, 727, 728, 729, 730, 731, 732, 733, 723, 724, 725] (by decide +kernel) (by decide +kernel)) (goodIn_sub (fun _ h => List.mem_append_left _ (List.mem_append_left _ (List.mem_append_left _ (List.mem_append_right _ h)))) (by decide +kernel))) (goodIn_sub (fun _ h => List.mem_append_left _ (List.mem_append_left _ (List.mem_append_right _ h))) (by decide +kernel))
set_option maxRecDepth 20000 in
theorem gL_law_L_hide : GoodIn wsL_law (va_wsS RL 150 yL_hide wsL_hide) := goodIn_app (goodIn_of _ (by decide +kernel)) ggL_law_L_hide
set_option maxRecDepth 20000 in
theorem ggL_law_X4_hide : GoodIn wsL_law wsX4_hide := goodIn_r _ [568, 63, 70, 62, 66, 569, 570, 571, 5, 572, 153, 154, 155, 156, 157, 125, 126, 127, 573, 574, 575, 576, 65, 93, 94, 95, 96, 97, 693, 694, 695, 696, 697, 698, 699, 700, 701, 702, 703, 704, 705, 706, 707, 708, 709, 710, 711, 712, 713, 714, 715, 716, 717, 718] (by decide +kernel) (by decide +kernel)
set_option maxRecDepth 20000 in
theorem gL_law_X4_hide : GoodIn wsL_law (wsV RL 152 RX4 yX4_hide wsX4_hide) := goodIn_app (goodIn_of _ (by decide +kernel)) ggL_law_X4_hide
set_option maxRecDepth 20000 in
theorem ggL_law_L_setOf : GoodIn wsL_law wsL_setOf := goodIn_ca (goodIn_ca (goodIn_r _ [579, 105, 507, 580, 581, 582, 2, 583, 512, 513, 556, 448, 135, 136, 137, 138, 114, 115, 139, 140, 141, 142, 22, 143, 144, 145, 21, 146, 147, 557, 558, 559, 560, 317, 323, 369, 449, 326, 327, 328, 329, 330, 331, 332, 333, 334, 335, 336, 337, 338, 339, 340, 341, 44, 728, 729, 730, 731, 732, 733, 682, 683, 684, 685, 686, 687, 688, 689, 690, 691, 692, 723, 724, 725, 726, 727] (by decide +kernel) (by decide +kernel)) (goodIn_sub (fun _ h => List.mem_append_right _ h) (by decide +kernel))) (goodIn_sub (fun _ h => List.mem_append_left _ (List.mem_append_left _ (List.mem_append_right _ h))) (by decide +kernel))
set_option maxRecDepth 20000 in
theorem gL_law_L_setOf : GoodIn wsL_law (va_wsS RL 153 yL_setOf wsL_setOf) := goodIn_app (goodIn_of _ (by decide +kernel)) ggL_law_L_setOf
set_option maxRecDepth 20000 in
theorem ggL_law_X4_setOf : GoodIn wsL_law wsX4_setOf := goodIn_r _ [587, 70, 67, 569, 570, 571, 5, 572, 63, 153, 154, 155, 156, 157, 125, 126, 127, 573, 574, 575, 576, 62, 65, 66, 93, 94, 95, 96, 97, 693, 694, 695, 696, 697, 698, 699, 700, 701, 702, 703, 704, 705, 706, 707, 708, 709, 710, 711, 712, 713, 714, 715, 716, 717, 718] (by decide +kernel) (by decide +kernel)
set_option maxRecDepth 20000 in
theorem gL_law_X4_setOf : GoodIn wsL_law (wsV RL 155 RX4 yX4_setOf wsX4_setOf) := goodIn_app (goodIn_of _ (by decide +kernel)) ggL_law_X4_setOf
set_option maxRecDepth 20000 in
theorem ggL_law_L_versionAt : GoodIn wsL_law wsL_versionAt := goodIn_ca (goodIn_ca (goodIn_r _ [590, 105, 173, 591, 592, 593, 2, 594, 182, 183, 30, 135, 136, 137, 138, 114, 115, 139, 140, 141, 142, 22, 143, 144, 145, 21, 146, 147, 595, 596, 597, 598, 317, 323, 599, 449, 369, 326, 327, 328, 329, 330, 331, 332, 333, 334, 335, 336, 337, 338, 339, 340, 341, 44, 682, 683, 684, 685, 686, 687, 688, 689, 690, 691, 692, 723, 724, 725, 726, 727, 728, 729, 730, 731, 732, 733] (by decide +kernel) (by decide +kernel)) (goodIn_sub (fun _ h => List.mem_append_left _ (List.mem_append_right _ h)) (by decide +kernel))) (goodIn_sub (fun _ h => List.mem_append_left _ (List.mem_append_left _ (List.mem_append_right _ h))) (by decide +kernel))
set_option maxRecDepth 20000 in
theorem gL_law_L_versionAt : GoodIn wsL_law (va_wsS RL 156 yL_versionAt wsL_versionAt) := goodIn_app (goodIn_of _ (by decide +kernel)) ggL_law_L_versionAt
set_option maxRecDepth 20000 in
theorem ggL_law_X4_versionAt : GoodIn wsL_law wsX4_versionAt := goodIn_r _ [603, 291, 153, 154, 155, 5, 156, 157, 125, 126, 127, 93, 94, 95, 96, 97, 604, 605, 606, 607, 62, 68, 66, 65, 693, 694, 695, 696, 697, 698, 699, 700, 701, 702, 703, 704, 705, 706, 707, 708, 709, 710, 711, 712, 713, 714, 715, 716, 717, 718] (by decide +kernel) (by decide +kernel)
set_option maxRecDepth 20000 in
theorem gL_law_X4_versionAt : GoodIn wsL_law (wsV RL 158 RX4 yX4_versionAt wsX4_versionAt) := goodIn_app (goodIn_of _ (by decide +kernel)) ggL_law_X4_versionAt
set_option maxRecDepth 20000 in
theorem ggL_law_L_inBox : GoodIn wsL_law wsL_inBox := goodIn_ca (goodIn_r _ [610, 173, 611, 612, 613, 2, 614, 182, 183, 178, 179, 180, 181, 615, 616, 617, 618, 22, 317, 323, 324, 318, 325, 514, 515, 143, 144, 145, 21, 146, 147, 326, 327, 328, 329, 330, 331, 332, 333, 334, 335, 336, 337, 338, 339, 340, 341, 44, 374, 375, 376, 377, 378, 379, 380, 299, 381, 382, 383, 619, 620, 621, 622, 388, 389, 390, 391, 392, 393, 394, 538, 539, 540, 541, 542, 543, 544, 682, 683, 684, 685, 686, 687, 688, 689, 690, 691, 692, 726, 727, 728, 729, 730, 731, 732, 733, 719, 720, 721, 722, 723, 724, 725] (by decide +kernel) (by decide +kernel)) (goodIn_sub (fun _ h => List.mem_append_left _ (List.mem_append_right _ h)) (by decide +kernel))
set_option maxRecDepth 20000 in
theorem gL_law_L_inBox : GoodIn wsL_law (va_wsS RL 159 yL_inBox wsL_inBox) := goodIn_app (goodIn_of _ (by decide +kernel)) ggL_law_L_inBox
set_option maxRecDepth 20000 in
theorem ggL_law_X4_inBox : GoodIn wsL_law wsX4_inBox := goodIn_r _ [626, 157, 71, 62, 75, 61, 125, 126, 5, 127, 93, 94, 95, 96, 97, 354, 355, 356, 357, 69, 627, 628, 629, 630, 418, 419, 420, 421, 72, 73, 631, 632, 633, 634, 693, 694, 695, 696, 697, 698, 699, 700, 701, 702, 703, 704, 705, 706, 707, 708, 709, 710, 711, 712, 713, 714, 715, 716, 717, 718] (by decide +kernel) (by decide +kernel)
set_option maxRecDepth 20000 in
theorem gL_law_X4_inBox : GoodIn wsL_law (wsV RL 161 RX4 yX4_inBox wsX4_inBox) := goodIn_app (goodIn_of _ (by decide +kernel)) ggL_law_X4_inBox
set_option maxRecDepth 20000 in
theorem ggL_law_L_pass : GoodIn wsL_law wsL_pass := goodIn_ca (goodIn_ca (goodIn_r _ [637, 173, 81, 638, 639, 640, 2, 641, 86, 87, 30, 642, 643, 644, 645, 182, 183, 682, 683, 684, 685, 686, 687, 688, 689, 690, 691, 692] (by decide +kernel) (by decide +kernel)) (goodIn_sub (fun _ h => List.mem_append_left _ (List.mem_append_left _ (List.mem_append_left _ (List.mem_append_right _ h)))) (by decide +kernel))) (goodIn_sub (fun _ h => List.mem_append_left _ (List.mem_append_right _ h)) (by decide +kernel))
set_option maxRecDepth 20000 in
theorem gL_law_L_pass : GoodIn wsL_law (va_wsS RL 162 yL_pass wsL_pass) := goodIn_app (goodIn_of _ (by decide +kernel)) ggL_law_L_pass
set_option maxRecDepth 20000 in
theorem ggL_law_X4_pass : GoodIn wsL_law wsX4_pass := goodIn_r _ [649, 291, 125, 126, 5, 127, 93, 94, 95, 96, 97, 693, 694, 695, 696, 697, 698, 699, 700, 701, 702, 703, 704, 705, 706, 707, 708, 709, 710, 711, 712, 713, 714, 715, 716, 717, 718] (by decide +kernel) (by decide +kernel)
set_option maxRecDepth 20000 in
theorem gL_law_X4_pass : GoodIn wsL_law (wsV RL 164 RX4 yX4_pass wsX4_pass) := goodIn_app (goodIn_of _ (by decide +kernel)) ggL_law_X4_pass
set_option maxRecDepth 20000 in
theorem ggL_law_L_take : GoodIn wsL_law wsL_take := goodIn_ca (goodIn_r _ [652, 173, 653, 654, 655, 2, 656, 31, 30, 657, 272, 246, 273, 22, 642, 643, 644, 645, 182, 183, 143, 144, 145, 21, 146, 147, 595, 596, 597, 598, 317, 323, 599, 449, 369, 326, 327, 328, 329, 330, 331, 332, 333, 334, 335, 336, 337, 338, 339, 340, 341, 44, 682, 683, 684, 685, 686, 687, 688, 689, 690, 691, 692, 723, 724, 725, 726, 727, 728, 729, 730, 731, 732, 733] (by decide +kernel) (by decide +kernel)) (goodIn_sub (fun _ h => List.mem_append_left _ (List.mem_append_right _ h)) (by decide +kernel))
set_option maxRecDepth 20000 in
theorem gL_law_L_take : GoodIn wsL_law (va_wsS RL 165 yL_take wsL_take) := goodIn_app (goodIn_of _ (by decide +kernel)) ggL_law_L_take
set_option maxRecDepth 20000 in
theorem ggL_law_X4_take : GoodIn wsL_law wsX4_take := goodIn_r _ [661, 662, 291, 120, 68, 125, 126, 5, 127, 93, 94, 95, 96, 97, 693, 694, 695, 696, 697, 698, 699, 700, 701, 702, 703, 704, 705, 706, 707, 708, 709, 710, 711, 712, 713, 714, 715, 716, 717, 718] (by decide +kernel) (by decide +kernel)
set_option maxRecDepth 20000 in
theorem gL_law_X4_take : GoodIn wsL_law (wsV RL 167 RX4 yX4_take wsX4_take) := goodIn_app (goodIn_of _ (by decide +kernel)) ggL_law_X4_take
set_option maxRecDepth 20000 in
theorem ggL_law_L_inCopy : GoodIn wsL_law wsL_inCopy := goodIn_ca (goodIn_r _ [665, 105, 666, 667, 668, 2, 669, 31, 135, 136, 137, 138, 114, 115, 139, 140, 141, 142, 22, 143, 144, 145, 21, 146, 147, 595, 596, 597, 598, 317, 323, 599, 449, 369, 326, 327, 328, 329, 330, 331, 332, 333, 334, 335, 336, 337, 338, 339, 340, 341, 44, 682, 683, 684, 685, 686, 687, 688, 689, 690, 691, 692, 723, 724, 725, 726, 727, 728, 729, 730, 731, 732, 733] (by decide +kernel) (by decide +kernel)) (goodIn_sub (fun _ h => List.mem_append_left _ (List.mem_append_left _ (List.mem_append_right _ h))) (by decide +kernel))
set_option maxRecDepth 20000 in
theorem gL_law_L_inCopy : GoodIn wsL_law (va_wsS RL 168 yL_inCopy wsL_inCopy) := goodIn_app (goodIn_of _ (by decide +kernel)) ggL_law_L_inCopy
set_option maxRecDepth 20000 in
theorem ggL_law_X4_inCopy : GoodIn wsL_law wsX4_inCopy := goodIn_r _ [673, 662, 153, 154, 155, 5, 156, 157, 125, 126, 127, 93, 94, 95, 96, 97, 604, 605, 606, 607, 62, 68, 66, 65, 693, 694, 695, 696, 697, 698, 699, 700, 701, 702, 703, 704, 705, 706, 707, 708, 709, 710, 711, 712, 713, 714, 715, 716, 717, 718] (by decide +kernel) (by decide +kernel)
set_option maxRecDepth 20000 in
theorem gL_law_X4_inCopy : GoodIn wsL_law (wsV RL 170 RX4 yX4_inCopy wsX4_inCopy) := goodIn_app (goodIn_of _ (by decide +kernel)) ggL_law_X4_inCopy
set_option maxRecDepth 20000 in
theorem ggL_law_X3_isTrue : GoodIn wsL_law wsX3_isTrue := goodIn_r _ [677, 22, 317, 323, 599, 31, 143, 144, 145, 21, 146, 147, 326, 327, 328, 329, 330, 331, 332, 333, 334, 335, 336, 337, 338, 339, 340, 341, 44, 682, 683, 684, 685, 686, 687, 688, 689, 690, 691, 692, 726, 727, 728, 729, 730, 731, 732, 733, 723, 724, 725] (by decide +kernel) (by decide +kernel)
set_option maxRecDepth 20000 in
theorem gL_law_X3_isTrue : GoodIn wsL_law (wsV RL 171 RX3 yX3_isTrue wsX3_isTrue) := goodIn_app (goodIn_of _ (by decide +kernel)) ggL_law_X3_isTrue
set_option maxRecDepth 20000 in
theorem ggL_law_X4_isTrue : GoodIn wsL_law wsX4_isTrue := goodIn_r _ [681, 97, 157, 662, 63, 604, 605, 606, 5, 607, 62, 68, 66, 65, 693, 694, 695, 696, 697, 698, 699, 700, 701, 702, 703, 704, 705, 706, 707, 708, 709, 710, 711, 712, 713, 714, 715, 716, 717, 718] (by decide +kernel) (by decide +kernel)
set_option maxRecDepth 20000 in
theorem gL_law_X4_isTrue : GoodIn wsL_law (wsV RL 175 RX4 yX4_isTrue wsX4_isTrue) := goodIn_app (goodIn_of _ (by decide +kernel)) ggL_law_X4_isTrue
