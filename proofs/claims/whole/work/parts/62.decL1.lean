set_option maxRecDepth 20000 in
theorem ggL_law_X4_init : GoodIn wsL_law wsX4_init := goodIn_r _ [8, 9, 10, 11, 12, 13, 14, 15, 16, 17, 18, 19, 20, 21, 22, 23, 24, 25, 26, 27, 28, 29, 30, 31, 32, 33, 34, 35, 36, 37, 38, 39, 40, 41, 42, 43, 44, 45, 46, 47, 48, 49, 50, 51, 52, 53, 54, 724, 725, 726, 727, 692, 693, 694, 695, 696, 697, 698, 728, 729, 730, 731, 732, 733, 734, 735, 736, 737, 738] (by decide +kernel) (by decide +kernel)
set_option maxRecDepth 20000 in
theorem gL_law_X4_init : GoodIn wsL_law (wsX4_init) := ggL_law_X4_init
set_option maxRecDepth 20000 in
theorem ggL_law_X5_init : GoodIn wsL_law wsX5_init := goodIn_r _ [57, 58, 10, 11, 32, 59, 60, 61, 62, 63, 64, 65, 66, 67, 68, 69, 70, 71, 72, 73, 74, 699, 700, 701, 702, 703, 704, 705, 706, 707, 708, 709, 710, 711, 712, 713, 714, 715, 716, 717, 718, 719, 720, 721, 722, 723] (by decide +kernel) (by decide +kernel)
set_option maxRecDepth 20000 in
theorem gL_law_X5_init : GoodIn wsL_law (wsX5_init) := ggL_law_X5_init
set_option maxRecDepth 20000 in
theorem ggL_law_X4_city : GoodIn wsL_law wsX4_city := goodIn_r _ [78, 79, 28, 15, 80, 81, 27, 82, 83, 84, 85, 86, 87, 88, 89, 53, 90, 91, 92, 93, 94, 95, 96, 97, 54, 98, 99, 100, 2, 101, 102, 103, 104, 105, 106, 107, 108, 109, 110, 111, 112, 113, 114, 115, 116, 24, 117, 118, 119, 692, 693, 694, 695, 696, 697, 698, 724, 725, 726, 727, 736, 737, 738, 732, 733, 734, 735] (by decide +kernel) (by decide +kernel)
set_option maxRecDepth 20000 in
theorem gL_law_X4_city : GoodIn wsL_law (wsV RL 13 RX4 yX4_city wsX4_city) := goodIn_app (goodIn_of _ (by decide +kernel)) ggL_law_X4_city
set_option maxRecDepth 20000 in
theorem ggL_law_X5_city : GoodIn wsL_law wsX5_city := goodIn_r _ [123, 124, 125, 126, 127, 59, 62, 60, 63, 61, 64, 128, 129, 130, 5, 131, 132, 133, 134, 135, 136, 137, 138, 139, 140, 141, 142, 143, 144, 71, 72, 145, 146, 147, 148, 149, 150, 151, 152, 153, 154, 155, 156, 157, 158, 159, 73, 160, 161, 162, 163, 164, 165, 166, 167, 168, 699, 700, 701, 702, 703, 704, 705, 706, 707, 708, 709, 710, 711, 712, 713, 714, 715, 716, 717, 718, 719, 720, 721, 722, 723] (by decide +kernel) (by decide +kernel)
set_option maxRecDepth 20000 in
theorem gL_law_X5_city : GoodIn wsL_law (wsV RL 17 RX5 yX5_city wsX5_city) := goodIn_app (goodIn_of _ (by decide +kernel)) ggL_law_X5_city
set_option maxRecDepth 20000 in
theorem ggL_law_X4_ofHouse : GoodIn wsL_law wsX4_ofHouse := goodIn_r _ [172, 15, 173, 174, 175, 14, 176, 177, 178, 179, 180, 181, 33, 182, 183, 184, 185, 34, 35, 186, 187, 188, 692, 693, 694, 695, 696, 697, 698, 724, 725, 726, 727] (by decide +kernel) (by decide +kernel)
set_option maxRecDepth 20000 in
theorem gL_law_X4_ofHouse : GoodIn wsL_law (wsV RL 18 RX4 yX4_ofHouse wsX4_ofHouse) := goodIn_app (goodIn_of _ (by decide +kernel)) ggL_law_X4_ofHouse
set_option maxRecDepth 20000 in
theorem ggL_law_X5_ofHouse : GoodIn wsL_law wsX5_ofHouse := goodIn_r _ [192, 59, 60, 61, 193, 194, 195, 5, 196, 127, 133, 134, 135, 197, 198, 199, 200, 201, 202, 203, 204, 699, 700, 701, 702, 703, 704, 705, 706, 707, 708, 709, 710, 711, 712, 713, 714, 715, 716, 717, 718, 719, 720, 721, 722, 723] (by decide +kernel) (by decide +kernel)
set_option maxRecDepth 20000 in
theorem gL_law_X5_ofHouse : GoodIn wsL_law (wsV RL 22 RX5 yX5_ofHouse wsX5_ofHouse) := goodIn_app (goodIn_of _ (by decide +kernel)) ggL_law_X5_ofHouse
set_option maxRecDepth 20000 in
theorem ggL_law_X4_endow : GoodIn wsL_law wsX4_endow := goodIn_r _ [208, 15, 173, 174, 175, 14, 176, 177, 209, 210, 211, 212, 33, 34, 35, 692, 693, 694, 695, 696, 697, 698, 724, 725, 726, 727] (by decide +kernel) (by decide +kernel)
set_option maxRecDepth 20000 in
theorem gL_law_X4_endow : GoodIn wsL_law (wsV RL 23 RX4 yX4_endow wsX4_endow) := goodIn_app (goodIn_of _ (by decide +kernel)) ggL_law_X4_endow
set_option maxRecDepth 20000 in
theorem ggL_law_X5_endow : GoodIn wsL_law wsX5_endow := goodIn_r _ [216, 124, 217, 60, 61, 193, 194, 195, 5, 196, 127, 133, 134, 135, 699, 700, 701, 702, 703, 704, 705, 706, 707, 708, 709, 710, 711, 712, 713, 714, 715, 716, 717, 718, 719, 720, 721, 722, 723] (by decide +kernel) (by decide +kernel)
set_option maxRecDepth 20000 in
theorem gL_law_X5_endow : GoodIn wsL_law (wsV RL 27 RX5 yX5_endow wsX5_endow) := goodIn_app (goodIn_of _ (by decide +kernel)) ggL_law_X5_endow
set_option maxRecDepth 20000 in
theorem ggL_law_X4_hide : GoodIn wsL_law wsX4_hide := goodIn_r _ [221, 15, 173, 174, 175, 14, 176, 177, 222, 223, 224, 225, 34, 35, 692, 693, 694, 695, 696, 697, 698, 724, 725, 726, 727] (by decide +kernel) (by decide +kernel)
set_option maxRecDepth 20000 in
theorem gL_law_X4_hide : GoodIn wsL_law (wsV RL 28 RX4 yX4_hide wsX4_hide) := goodIn_app (goodIn_of _ (by decide +kernel)) ggL_law_X4_hide
set_option maxRecDepth 20000 in
theorem ggL_law_X5_hide : GoodIn wsL_law wsX5_hide := goodIn_r _ [229, 60, 61, 193, 194, 195, 5, 196, 127, 133, 134, 135, 699, 700, 701, 702, 703, 704, 705, 706, 707, 708, 709, 710, 711, 712, 713, 714, 715, 716, 717, 718, 719, 720, 721, 722, 723] (by decide +kernel) (by decide +kernel)
set_option maxRecDepth 20000 in
theorem gL_law_X5_hide : GoodIn wsL_law (wsV RL 31 RX5 yX5_hide wsX5_hide) := goodIn_app (goodIn_of _ (by decide +kernel)) ggL_law_X5_hide
set_option maxRecDepth 20000 in
theorem ggL_law_X4_answer : GoodIn wsL_law wsX4_answer := goodIn_r _ [233, 15, 173, 174, 175, 14, 176, 177, 234, 235, 236, 237, 34, 238, 239, 2, 240, 241, 242, 243, 244, 33, 182, 183, 184, 185, 35, 186, 187, 188, 245, 246, 247, 248, 692, 693, 694, 695, 696, 697, 698, 724, 725, 726, 727] (by decide +kernel) (by decide +kernel)
set_option maxRecDepth 20000 in
theorem gL_law_X4_answer : GoodIn wsL_law (wsV RL 32 RX4 yX4_answer wsX4_answer) := goodIn_app (goodIn_of _ (by decide +kernel)) ggL_law_X4_answer
set_option maxRecDepth 20000 in
theorem ggL_law_X5_answer : GoodIn wsL_law wsX5_answer := goodIn_r _ [252, 193, 194, 195, 5, 196, 127, 133, 134, 135, 253, 254, 255, 256, 60, 257, 258, 259, 168, 260, 261, 262, 263, 61, 201, 202, 203, 204, 59, 264, 265, 266, 267, 268, 269, 270, 271, 272, 273, 699, 700, 701, 702, 703, 704, 705, 706, 707, 708, 709, 710, 711, 712, 713, 714, 715, 716, 717, 718, 719, 720, 721, 722, 723] (by decide +kernel) (by decide +kernel)
set_option maxRecDepth 20000 in
theorem gL_law_X5_answer : GoodIn wsL_law (wsV RL 35 RX5 yX5_answer wsX5_answer) := goodIn_app (goodIn_of _ (by decide +kernel)) ggL_law_X5_answer
set_option maxRecDepth 20000 in
theorem ggL_law_X4_choice : GoodIn wsL_law wsX4_choice := goodIn_r _ [277, 15, 173, 174, 175, 14, 176, 177, 238, 239, 2, 240, 278, 279, 280, 281, 282, 283, 284, 285, 33, 286, 242, 243, 244, 182, 183, 184, 185, 34, 35, 186, 187, 188, 245, 246, 247, 248, 287, 235, 236, 237, 288, 289, 290, 291, 292, 293, 294, 295, 296, 297, 298, 299, 300, 301, 302, 179, 180, 181, 692, 693, 694, 695, 696, 697, 698, 724, 725, 726, 727] (by decide +kernel) (by decide +kernel)
set_option maxRecDepth 20000 in
theorem gL_law_X4_choice : GoodIn wsL_law (wsV RL 36 RX4 yX4_choice wsX4_choice) := goodIn_app (goodIn_of _ (by decide +kernel)) ggL_law_X4_choice
set_option maxRecDepth 20000 in
theorem ggL_law_X5_choice : GoodIn wsL_law wsX5_choice := goodIn_r _ [306, 193, 194, 195, 5, 196, 127, 133, 134, 135, 257, 258, 259, 168, 307, 308, 309, 310, 253, 254, 255, 256, 60, 311, 312, 313, 314, 264, 265, 266, 267, 61, 268, 269, 270, 271, 272, 273, 201, 202, 203, 204, 59, 260, 261, 262, 263, 197, 198, 199, 200, 315, 316, 317, 318, 319, 320, 321, 322, 323, 324, 325, 326, 699, 700, 701, 702, 703, 704, 705, 706, 707, 708, 709, 710, 711, 712, 713, 714, 715, 716, 717, 718, 719, 720, 721, 722, 723] (by decide +kernel) (by decide +kernel)
set_option maxRecDepth 20000 in
theorem gL_law_X5_choice : GoodIn wsL_law (wsV RL 39 RX5 yX5_choice wsX5_choice) := goodIn_app (goodIn_of _ (by decide +kernel)) ggL_law_X5_choice
set_option maxRecDepth 20000 in
theorem ggL_law_X4_year : GoodIn wsL_law wsX4_year := goodIn_r _ [330, 79, 15, 28, 80, 81, 27, 82, 238, 239, 2, 240, 83, 84, 85, 331, 332, 19, 333, 334, 335, 336, 86, 87, 88, 89, 53, 90, 91, 92, 93, 94, 95, 96, 97, 54, 98, 99, 100, 101, 337, 338, 339, 340, 20, 341, 342, 343, 344, 173, 174, 175, 14, 176, 177, 345, 346, 347, 348, 40, 41, 349, 350, 351, 352, 353, 354, 33, 355, 356, 357, 358, 34, 35, 234, 235, 236, 237, 359, 360, 361, 362, 363, 242, 243, 244, 182, 183, 184, 185, 186, 187, 188, 245, 246, 247, 248, 364, 294, 295, 296, 297, 290, 291, 292, 286, 298, 299, 300, 301, 302, 179, 180, 181, 365, 366, 367, 368, 369, 370, 371, 372, 373, 374, 375, 376, 377, 378, 379, 115, 380, 381, 382, 383, 384, 385, 386, 387, 388, 389, 390, 391, 392, 393, 692, 693, 694, 695, 696, 697, 698, 724, 725, 726, 727, 736, 737, 738, 728, 729, 730, 731] (by decide +kernel) (by decide +kernel)
set_option maxRecDepth 20000 in
theorem gL_law_X4_year : GoodIn wsL_law (wsV RL 40 RX4 yX4_year wsX4_year) := goodIn_app (goodIn_of _ (by decide +kernel)) ggL_law_X4_year
set_option maxRecDepth 20000 in
theorem ggL_law_X5_year : GoodIn wsL_law wsX5_year := goodIn_r _ [397, 132, 398, 399, 400, 401, 124, 127, 73, 129, 130, 5, 131, 133, 134, 135, 136, 137, 138, 139, 140, 257, 258, 259, 168, 141, 142, 143, 144, 71, 72, 145, 146, 147, 148, 149, 150, 151, 193, 194, 195, 196, 402, 403, 404, 405, 65, 60, 66, 61, 406, 407, 408, 409, 410, 411, 412, 67, 253, 254, 255, 256, 413, 414, 415, 416, 315, 316, 317, 318, 260, 261, 262, 263, 201, 202, 203, 204, 59, 264, 265, 266, 267, 268, 269, 270, 271, 272, 273, 323, 324, 325, 326, 197, 198, 199, 200, 417, 418, 419, 420, 421, 422, 423, 424, 425, 426, 427, 428, 429, 430, 431, 432, 699, 700, 701, 702, 703, 704, 705, 706, 707, 708, 709, 710, 711, 712, 713, 714, 715, 716, 717, 718, 719, 720, 721, 722, 723] (by decide +kernel) (by decide +kernel)
set_option maxRecDepth 20000 in
theorem gL_law_X5_year : GoodIn wsL_law (wsV RL 44 RX5 yX5_year wsX5_year) := goodIn_app (goodIn_of _ (by decide +kernel)) ggL_law_X5_year
set_option maxRecDepth 20000 in
theorem ggL_law_X4_name : GoodIn wsL_law wsX4_name := goodIn_r _ [436, 15, 173, 174, 175, 14, 176, 177, 238, 239, 2, 240, 278, 279, 280, 281, 282, 283, 284, 285, 33, 286, 242, 243, 244, 182, 183, 184, 185, 34, 35, 186, 187, 188, 245, 246, 247, 248, 287, 235, 236, 237, 289, 290, 291, 292, 437, 367, 368, 369, 370, 371, 372, 373, 374, 375, 376, 377, 378, 379, 115, 380, 692, 693, 694, 695, 696, 697, 698, 724, 725, 726, 727] (by decide +kernel) (by decide +kernel)
set_option maxRecDepth 20000 in
theorem gL_law_X4_name : GoodIn wsL_law (wsV RL 45 RX4 yX4_name wsX4_name) := goodIn_app (goodIn_of _ (by decide +kernel)) ggL_law_X4_name
set_option maxRecDepth 20000 in
theorem ggL_law_X5_name : GoodIn wsL_law wsX5_name := goodIn_r _ [441, 193, 194, 195, 5, 196, 127, 133, 134, 135, 257, 258, 259, 168, 307, 308, 309, 310, 253, 254, 255, 256, 60, 311, 312, 313, 314, 264, 265, 266, 267, 61, 268, 269, 270, 271, 272, 273, 201, 202, 203, 204, 59, 260, 261, 262, 263, 197, 198, 199, 200, 413, 414, 415, 416, 412, 411, 67, 315, 316, 317, 318, 323, 324, 325, 326, 417, 418, 419, 420, 699, 700, 701, 702, 703, 704, 705, 706, 707, 708, 709, 710, 711, 712, 713, 714, 715, 716, 717, 718, 719, 720, 721, 722, 723] (by decide +kernel) (by decide +kernel)
set_option maxRecDepth 20000 in
theorem gL_law_X5_name : GoodIn wsL_law (wsV RL 48 RX5 yX5_name wsX5_name) := goodIn_app (goodIn_of _ (by decide +kernel)) ggL_law_X5_name
set_option maxRecDepth 20000 in
theorem ggL_law_X4_safe : GoodIn wsL_law wsX4_safe := goodIn_r _ [445, 15, 16, 173, 174, 175, 14, 176, 177, 238, 239, 2, 240, 446, 352, 353, 354, 33, 355, 356, 357, 358, 34, 35, 447, 448, 449, 450, 451, 279, 280, 281, 282, 283, 284, 285, 286, 242, 243, 244, 182, 183, 184, 185, 186, 187, 188, 245, 246, 247, 248, 287, 235, 236, 237, 222, 223, 224, 225, 692, 693, 694, 695, 696, 697, 698, 724, 725, 726, 727] (by decide +kernel) (by decide +kernel)
set_option maxRecDepth 20000 in
theorem gL_law_X4_safe : GoodIn wsL_law (wsV RL 49 RX4 yX4_safe wsX4_safe) := goodIn_app (goodIn_of _ (by decide +kernel)) ggL_law_X4_safe
set_option maxRecDepth 20000 in
theorem ggL_law_X5_safe : GoodIn wsL_law wsX5_safe := goodIn_r _ [455, 60, 61, 193, 194, 195, 5, 196, 127, 133, 134, 135, 257, 258, 259, 168, 456, 457, 458, 459, 307, 308, 309, 310, 253, 254, 255, 256, 311, 312, 313, 314, 264, 265, 266, 267, 268, 269, 270, 271, 272, 273, 201, 202, 203, 204, 59, 260, 261, 262, 263, 197, 198, 199, 200, 699, 700, 701, 702, 703, 704, 705, 706, 707, 708, 709, 710, 711, 712, 713, 714, 715, 716, 717, 718, 719, 720, 721, 722, 723] (by decide +kernel) (by decide +kernel)
set_option maxRecDepth 20000 in
theorem gL_law_X5_safe : GoodIn wsL_law (wsV RL 52 RX5 yX5_safe wsX5_safe) := goodIn_app (goodIn_of _ (by decide +kernel)) ggL_law_X5_safe
set_option maxRecDepth 20000 in
theorem ggL_law_X4_reading : GoodIn wsL_law wsX4_reading := goodIn_r _ [463, 15, 24, 173, 174, 175, 14, 176, 177, 238, 239, 2, 240, 464, 465, 466, 23, 467, 468, 45, 46, 47, 692, 693, 694, 695, 696, 697, 698, 732, 733, 734, 735, 724, 725, 726, 727] (by decide +kernel) (by decide +kernel)
set_option maxRecDepth 20000 in
theorem gL_law_X4_reading : GoodIn wsL_law (wsV RL 53 RX4 yX4_reading wsX4_reading) := goodIn_app (goodIn_of _ (by decide +kernel)) ggL_law_X4_reading
set_option maxRecDepth 20000 in
theorem ggL_law_X5_reading : GoodIn wsL_law wsX5_reading := goodIn_r _ [472, 128, 68, 69, 70, 193, 194, 195, 5, 196, 127, 133, 134, 135, 257, 258, 259, 168, 699, 700, 701, 702, 703, 704, 705, 706, 707, 708, 709, 710, 711, 712, 713, 714, 715, 716, 717, 718, 719, 720, 721, 722, 723] (by decide +kernel) (by decide +kernel)
set_option maxRecDepth 20000 in
theorem gL_law_X5_reading : GoodIn wsL_law (wsV RL 56 RX5 yX5_reading wsX5_reading) := goodIn_app (goodIn_of _ (by decide +kernel)) ggL_law_X5_reading
set_option maxRecDepth 20000 in
theorem ggL_law_X4_back : GoodIn wsL_law wsX4_back := goodIn_r _ [476, 24, 692, 693, 694, 695, 696, 697, 698, 732, 733, 734, 735] (by decide +kernel) (by decide +kernel)
set_option maxRecDepth 20000 in
theorem gL_law_X4_back : GoodIn wsL_law (wsV RL 57 RX4 yX4_back wsX4_back) := goodIn_app (goodIn_of _ (by decide +kernel)) ggL_law_X4_back
set_option maxRecDepth 20000 in
theorem ggL_law_X5_back : GoodIn wsL_law wsX5_back := goodIn_r _ [480, 128, 133, 134, 5, 135, 699, 700, 701, 702, 703, 704, 705, 706, 707, 708, 709, 710, 711, 712, 713, 714, 715, 716, 717, 718, 719, 720, 721, 722, 723] (by decide +kernel) (by decide +kernel)
set_option maxRecDepth 20000 in
theorem gL_law_X5_back : GoodIn wsL_law (wsV RL 61 RX5 yX5_back wsX5_back) := goodIn_app (goodIn_of _ (by decide +kernel)) ggL_law_X5_back
set_option maxRecDepth 20000 in
theorem ggL_law_X4_lands : GoodIn wsL_law wsX4_lands := goodIn_r _ [484, 15, 173, 174, 175, 14, 176, 177, 485, 486, 487, 2, 488, 16, 24, 446, 352, 353, 354, 33, 355, 356, 357, 358, 34, 35, 209, 210, 211, 212, 489, 490, 491, 23, 492, 468, 45, 46, 47, 493, 279, 280, 281, 282, 283, 284, 285, 286, 242, 243, 244, 182, 183, 184, 185, 186, 187, 188, 245, 246, 247, 248, 287, 235, 236, 237, 692, 693, 694, 695, 696, 697, 698, 724, 725, 726, 727, 732, 733, 734, 735] (by decide +kernel) (by decide +kernel)
set_option maxRecDepth 20000 in
theorem gL_law_X4_lands : GoodIn wsL_law (wsV RL 62 RX4 yX4_lands wsX4_lands) := goodIn_app (goodIn_of _ (by decide +kernel)) ggL_law_X4_lands
set_option maxRecDepth 20000 in
theorem ggL_law_X5_lands : GoodIn wsL_law wsX5_lands := goodIn_r _ [497, 60, 193, 194, 195, 5, 196, 127, 133, 134, 135, 498, 499, 500, 501, 128, 68, 69, 70, 307, 308, 309, 310, 253, 254, 255, 256, 311, 312, 313, 314, 264, 265, 266, 267, 61, 268, 269, 270, 271, 272, 273, 201, 202, 203, 204, 59, 260, 261, 262, 263, 197, 198, 199, 200, 699, 700, 701, 702, 703, 704, 705, 706, 707, 708, 709, 710, 711, 712, 713, 714, 715, 716, 717, 718, 719, 720, 721, 722, 723] (by decide +kernel) (by decide +kernel)
set_option maxRecDepth 20000 in
theorem gL_law_X5_lands : GoodIn wsL_law (wsV RL 65 RX5 yX5_lands wsX5_lands) := goodIn_app (goodIn_of _ (by decide +kernel)) ggL_law_X5_lands
set_option maxRecDepth 20000 in
theorem ggL_law_X4_coins : GoodIn wsL_law wsX4_coins := goodIn_r _ [505, 15, 173, 174, 175, 14, 176, 177, 485, 486, 487, 2, 488, 16, 24, 446, 352, 353, 354, 33, 355, 356, 357, 358, 34, 35, 209, 210, 211, 212, 489, 490, 491, 23, 492, 468, 45, 46, 47, 493, 279, 280, 281, 282, 283, 284, 285, 286, 242, 243, 244, 182, 183, 184, 185, 186, 187, 188, 245, 246, 247, 248, 287, 235, 236, 237, 692, 693, 694, 695, 696, 697, 698, 724, 725, 726, 727, 732, 733, 734, 735] (by decide +kernel) (by decide +kernel)
set_option maxRecDepth 20000 in
theorem gL_law_X4_coins : GoodIn wsL_law (wsV RL 66 RX4 yX4_coins wsX4_coins) := goodIn_app (goodIn_of _ (by decide +kernel)) ggL_law_X4_coins
set_option maxRecDepth 20000 in
theorem ggL_law_X5_coins : GoodIn wsL_law wsX5_coins := goodIn_r _ [509, 61, 193, 194, 195, 5, 196, 127, 133, 134, 135, 498, 499, 500, 501, 128, 68, 69, 70, 307, 308, 309, 310, 253, 254, 255, 256, 60, 311, 312, 313, 314, 264, 265, 266, 267, 268, 269, 270, 271, 272, 273, 201, 202, 203, 204, 59, 260, 261, 262, 263, 197, 198, 199, 200, 699, 700, 701, 702, 703, 704, 705, 706, 707, 708, 709, 710, 711, 712, 713, 714, 715, 716, 717, 718, 719, 720, 721, 722, 723] (by decide +kernel) (by decide +kernel)
set_option maxRecDepth 20000 in
theorem gL_law_X5_coins : GoodIn wsL_law (wsV RL 69 RX5 yX5_coins wsX5_coins) := goodIn_app (goodIn_of _ (by decide +kernel)) ggL_law_X5_coins
set_option maxRecDepth 20000 in
theorem ggL_law_X4_kinds : GoodIn wsL_law wsX4_kinds := goodIn_r _ [513, 15, 173, 174, 175, 14, 176, 177, 485, 486, 487, 2, 488, 16, 24, 446, 352, 353, 354, 33, 355, 356, 357, 358, 34, 35, 209, 210, 211, 212, 489, 490, 491, 23, 492, 468, 45, 46, 47, 493, 279, 280, 281, 282, 283, 284, 285, 286, 242, 243, 244, 182, 183, 184, 185, 186, 187, 188, 245, 246, 247, 248, 287, 235, 236, 237, 692, 693, 694, 695, 696, 697, 698, 724, 725, 726, 727, 732, 733, 734, 735] (by decide +kernel) (by decide +kernel)
set_option maxRecDepth 20000 in
theorem gL_law_X4_kinds : GoodIn wsL_law (wsV RL 70 RX4 yX4_kinds wsX4_kinds) := goodIn_app (goodIn_of _ (by decide +kernel)) ggL_law_X4_kinds
set_option maxRecDepth 20000 in
theorem ggL_law_X5_kinds : GoodIn wsL_law wsX5_kinds := goodIn_r _ [517, 59, 193, 194, 195, 5, 196, 127, 133, 134, 135, 498, 499, 500, 501, 128, 68, 69, 70, 307, 308, 309, 310, 253, 254, 255, 256, 60, 311, 312, 313, 314, 264, 265, 266, 267, 61, 268, 269, 270, 271, 272, 273, 201, 202, 203, 204, 260, 261, 262, 263, 197, 198, 199, 200, 699, 700, 701, 702, 703, 704, 705, 706, 707, 708, 709, 710, 711, 712, 713, 714, 715, 716, 717, 718, 719, 720, 721, 722, 723] (by decide +kernel) (by decide +kernel)
set_option maxRecDepth 20000 in
theorem gL_law_X5_kinds : GoodIn wsL_law (wsV RL 73 RX5 yX5_kinds wsX5_kinds) := goodIn_app (goodIn_of _ (by decide +kernel)) ggL_law_X5_kinds
set_option maxRecDepth 20000 in
theorem ggL_law_X4_odds : GoodIn wsL_law wsX4_odds := goodIn_r _ [521, 15, 522, 238, 239, 2, 240, 278, 279, 280, 14, 281, 177, 282, 283, 284, 285, 33, 286, 242, 243, 244, 182, 183, 184, 185, 34, 35, 186, 187, 188, 245, 246, 247, 248, 287, 235, 236, 237, 293, 294, 295, 296, 297, 290, 291, 292, 298, 299, 300, 301, 302, 179, 180, 181, 523, 524, 525, 692, 693, 694, 695, 696, 697, 698, 724, 725, 726, 727] (by decide +kernel) (by decide +kernel)
set_option maxRecDepth 20000 in
theorem gL_law_X4_odds : GoodIn wsL_law (wsV RL 74 RX4 yX4_odds wsX4_odds) := goodIn_app (goodIn_of _ (by decide +kernel)) ggL_law_X4_odds
set_option maxRecDepth 20000 in
theorem ggL_law_X5_odds : GoodIn wsL_law wsX5_odds := goodIn_r _ [529, 127, 257, 258, 5, 259, 168, 133, 134, 135, 530, 531, 532, 533, 307, 308, 309, 310, 253, 254, 255, 256, 60, 311, 312, 313, 314, 264, 265, 266, 267, 61, 268, 269, 270, 271, 272, 273, 201, 202, 203, 204, 59, 260, 261, 262, 263, 197, 198, 199, 200, 319, 320, 321, 322, 315, 316, 317, 318, 323, 324, 325, 326, 534, 535, 536, 699, 700, 701, 702, 703, 704, 705, 706, 707, 708, 709, 710, 711, 712, 713, 714, 715, 716, 717, 718, 719, 720, 721, 722, 723] (by decide +kernel) (by decide +kernel)
set_option maxRecDepth 20000 in
theorem gL_law_X5_odds : GoodIn wsL_law (wsV RL 78 RX5 yX5_odds wsX5_odds) := goodIn_app (goodIn_of _ (by decide +kernel)) ggL_law_X5_odds
set_option maxRecDepth 20000 in
theorem ggL_law_X4_sheet : GoodIn wsL_law wsX4_sheet := goodIn_r _ [540, 79, 28, 80, 81, 27, 82, 83, 84, 85, 98, 99, 100, 2, 101, 541, 542, 543, 544, 52, 53, 54, 692, 693, 694, 695, 696, 697, 698, 736, 737, 738] (by decide +kernel) (by decide +kernel)
set_option maxRecDepth 20000 in
theorem gL_law_X4_sheet : GoodIn wsL_law (wsV RL 79 RX4 yX4_sheet wsX4_sheet) := goodIn_app (goodIn_of _ (by decide +kernel)) ggL_law_X4_sheet
set_option maxRecDepth 20000 in
theorem ggL_law_X5_sheet : GoodIn wsL_law wsX5_sheet := goodIn_r _ [548, 124, 71, 72, 73, 129, 130, 5, 131, 132, 133, 134, 135, 136, 137, 138, 139, 140, 145, 146, 147, 148, 699, 700, 701, 702, 703, 704, 705, 706, 707, 708, 709, 710, 711, 712, 713, 714, 715, 716, 717, 718, 719, 720, 721, 722, 723] (by decide +kernel) (by decide +kernel)
set_option maxRecDepth 20000 in
theorem gL_law_X5_sheet : GoodIn wsL_law (wsV RL 82 RX5 yX5_sheet wsX5_sheet) := goodIn_app (goodIn_of _ (by decide +kernel)) ggL_law_X5_sheet
set_option maxRecDepth 20000 in
theorem ggL_law_X4_lose : GoodIn wsL_law wsX4_lose := goodIn_r _ [552, 28, 80, 81, 27, 82, 553, 91, 92, 93, 53, 554, 555, 556, 557, 54, 692, 693, 694, 695, 696, 697, 698, 736, 737, 738] (by decide +kernel) (by decide +kernel)
set_option maxRecDepth 20000 in
theorem gL_law_X4_lose : GoodIn wsL_law (wsV RL 83 RX4 yX4_lose wsX4_lose) := goodIn_app (goodIn_of _ (by decide +kernel)) ggL_law_X4_lose
set_option maxRecDepth 20000 in
theorem ggL_law_X5_lose : GoodIn wsL_law wsX5_lose := goodIn_r _ [561, 71, 129, 130, 5, 131, 132, 133, 134, 135, 699, 700, 701, 702, 703, 704, 705, 706, 707, 708, 709, 710, 711, 712, 713, 714, 715, 716, 717, 718, 719, 720, 721, 722, 723] (by decide +kernel) (by decide +kernel)
set_option maxRecDepth 20000 in
theorem gL_law_X5_lose : GoodIn wsL_law (wsV RL 86 RX5 yX5_lose wsX5_lose) := goodIn_app (goodIn_of _ (by decide +kernel)) ggL_law_X5_lose
set_option maxRecDepth 20000 in
theorem ggL_law_X4_put : GoodIn wsL_law wsX4_put := goodIn_r _ [565, 79, 28, 80, 81, 27, 82, 553, 91, 92, 93, 53, 566, 567, 568, 569, 54, 98, 99, 100, 2, 101, 570, 571, 572, 573, 52, 574, 575, 576, 692, 693, 694, 695, 696, 697, 698, 736, 737, 738] (by decide +kernel) (by decide +kernel)
set_option maxRecDepth 20000 in
theorem gL_law_X4_put : GoodIn wsL_law (wsV RL 87 RX4 yX4_put wsX4_put) := goodIn_app (goodIn_of _ (by decide +kernel)) ggL_law_X4_put
set_option maxRecDepth 20000 in
theorem ggL_law_X5_put : GoodIn wsL_law wsX5_put := goodIn_r _ [580, 73, 72, 129, 130, 5, 131, 132, 133, 134, 135, 136, 137, 138, 139, 140, 581, 582, 583, 584, 71, 145, 146, 147, 148, 699, 700, 701, 702, 703, 704, 705, 706, 707, 708, 709, 710, 711, 712, 713, 714, 715, 716, 717, 718, 719, 720, 721, 722, 723] (by decide +kernel) (by decide +kernel)
set_option maxRecDepth 20000 in
theorem gL_law_X5_put : GoodIn wsL_law (wsV RL 90 RX5 yX5_put wsX5_put) := goodIn_app (goodIn_of _ (by decide +kernel)) ggL_law_X5_put
set_option maxRecDepth 20000 in
theorem ggL_law_X4_cell : GoodIn wsL_law wsX4_cell := goodIn_r _ [588, 79, 522, 28, 80, 81, 27, 82, 83, 84, 85, 86, 87, 88, 89, 53, 90, 91, 92, 93, 566, 567, 568, 569, 54, 692, 693, 694, 695, 696, 697, 698, 736, 737, 738] (by decide +kernel) (by decide +kernel)
set_option maxRecDepth 20000 in
theorem gL_law_X4_cell : GoodIn wsL_law (wsV RL 91 RX4 yX4_cell wsX4_cell) := goodIn_app (goodIn_of _ (by decide +kernel)) ggL_law_X4_cell
set_option maxRecDepth 20000 in
theorem ggL_law_X5_cell : GoodIn wsL_law wsX5_cell := goodIn_r _ [592, 140, 124, 71, 72, 73, 129, 130, 5, 131, 132, 133, 134, 135, 530, 531, 532, 533, 593, 594, 595, 596, 581, 582, 583, 584, 699, 700, 701, 702, 703, 704, 705, 706, 707, 708, 709, 710, 711, 712, 713, 714, 715, 716, 717, 718, 719, 720, 721, 722, 723] (by decide +kernel) (by decide +kernel)
set_option maxRecDepth 20000 in
theorem gL_law_X5_cell : GoodIn wsL_law (wsV RL 95 RX5 yX5_cell wsX5_cell) := goodIn_app (goodIn_of _ (by decide +kernel)) ggL_law_X5_cell
set_option maxRecDepth 20000 in
theorem ggL_law_X4_copy : GoodIn wsL_law wsX4_copy := goodIn_r _ [600, 79, 28, 601, 356, 357, 358, 80, 81, 27, 82, 553, 91, 92, 93, 53, 98, 99, 100, 2, 101, 94, 95, 96, 97, 54, 692, 693, 694, 695, 696, 697, 698, 736, 737, 738] (by decide +kernel) (by decide +kernel)
set_option maxRecDepth 20000 in
theorem gL_law_X4_copy : GoodIn wsL_law (wsV RL 96 RX4 yX4_copy wsX4_copy) := goodIn_app (goodIn_of _ (by decide +kernel)) ggL_law_X4_copy
set_option maxRecDepth 20000 in
theorem ggL_law_X5_copy : GoodIn wsL_law wsX5_copy := goodIn_r _ [605, 71, 72, 74, 73, 129, 130, 5, 131, 132, 133, 134, 135, 136, 137, 138, 139, 140, 145, 146, 147, 148, 149, 150, 151, 699, 700, 701, 702, 703, 704, 705, 706, 707, 708, 709, 710, 711, 712, 713, 714, 715, 716, 717, 718, 719, 720, 721, 722, 723] (by decide +kernel) (by decide +kernel)
set_option maxRecDepth 20000 in
theorem gL_law_X5_copy : GoodIn wsL_law (wsV RL 100 RX5 yX5_copy wsX5_copy) := goodIn_app (goodIn_of _ (by decide +kernel)) ggL_law_X5_copy
set_option maxRecDepth 20000 in
theorem ggL_law_X4_tell : GoodIn wsL_law wsX4_tell := goodIn_r _ [609, 15, 173, 174, 175, 14, 176, 177, 610, 611, 612, 2, 613, 614, 615, 616, 617, 618, 619, 620, 621, 622, 623, 624, 625, 626, 692, 693, 694, 695, 696, 697, 698, 724, 725, 726, 727] (by decide +kernel) (by decide +kernel)
set_option maxRecDepth 20000 in
theorem gL_law_X4_tell : GoodIn wsL_law (wsV RL 101 RX4 yX4_tell wsX4_tell) := goodIn_app (goodIn_of _ (by decide +kernel)) ggL_law_X4_tell
set_option maxRecDepth 20000 in
theorem ggL_law_X5_tell : GoodIn wsL_law wsX5_tell := goodIn_r _ [630, 59, 60, 193, 194, 195, 5, 196, 127, 133, 134, 135, 631, 632, 633, 634, 635, 699, 700, 701, 702, 703, 704, 705, 706, 707, 708, 709, 710, 711, 712, 713, 714, 715, 716, 717, 718, 719, 720, 721, 722, 723] (by decide +kernel) (by decide +kernel)
set_option maxRecDepth 20000 in
theorem gL_law_X5_tell : GoodIn wsL_law (wsV RL 104 RX5 yX5_tell wsX5_tell) := goodIn_app (goodIn_of _ (by decide +kernel)) ggL_law_X5_tell
set_option maxRecDepth 20000 in
theorem ggL_law_X4_seal : GoodIn wsL_law wsX4_seal := goodIn_r _ [639, 15, 173, 174, 175, 14, 176, 177, 640, 641, 642, 2, 643, 614, 615, 616, 617, 618, 644, 645, 646, 647, 692, 693, 694, 695, 696, 697, 698, 724, 725, 726, 727] (by decide +kernel) (by decide +kernel)
set_option maxRecDepth 20000 in
theorem gL_law_X4_seal : GoodIn wsL_law (wsV RL 105 RX4 yX4_seal wsX4_seal) := goodIn_app (goodIn_of _ (by decide +kernel)) ggL_law_X4_seal
set_option maxRecDepth 20000 in
theorem ggL_law_X5_seal : GoodIn wsL_law wsX5_seal := goodIn_r _ [651, 59, 193, 194, 195, 5, 196, 127, 133, 134, 135, 631, 632, 633, 634, 635, 699, 700, 701, 702, 703, 704, 705, 706, 707, 708, 709, 710, 711, 712, 713, 714, 715, 716, 717, 718, 719, 720, 721, 722, 723] (by decide +kernel) (by decide +kernel)
set_option maxRecDepth 20000 in
theorem gL_law_X5_seal : GoodIn wsL_law (wsV RL 108 RX5 yX5_seal wsX5_seal) := goodIn_app (goodIn_of _ (by decide +kernel)) ggL_law_X5_seal
set_option maxRecDepth 20000 in
theorem ggL_law_X4_as : GoodIn wsL_law wsX4_as := goodIn_r _ [655, 79, 15, 173, 174, 175, 14, 176, 177, 98, 99, 100, 2, 101, 692, 693, 694, 695, 696, 697, 698, 724, 725, 726, 727] (by decide +kernel) (by decide +kernel)
set_option maxRecDepth 20000 in
theorem gL_law_X4_as : GoodIn wsL_law (wsV RL 109 RX4 yX4_as wsX4_as) := goodIn_app (goodIn_of _ (by decide +kernel)) ggL_law_X4_as
set_option maxRecDepth 20000 in
theorem ggL_law_X5_as : GoodIn wsL_law wsX5_as := goodIn_r _ [659, 124, 59, 193, 194, 195, 5, 196, 127, 133, 134, 135, 136, 137, 138, 139, 140, 145, 146, 147, 148, 699, 700, 701, 702, 703, 704, 705, 706, 707, 708, 709, 710, 711, 712, 713, 714, 715, 716, 717, 718, 719, 720, 721, 722, 723] (by decide +kernel) (by decide +kernel)
set_option maxRecDepth 20000 in
theorem gL_law_X5_as : GoodIn wsL_law (wsV RL 112 RX5 yX5_as wsX5_as) := goodIn_app (goodIn_of _ (by decide +kernel)) ggL_law_X5_as
set_option maxRecDepth 20000 in
theorem ggL_law_X4_trace : GoodIn wsL_law wsX4_trace := goodIn_r _ [663, 618, 692, 693, 694, 695, 696, 697, 698] (by decide +kernel) (by decide +kernel)
set_option maxRecDepth 20000 in
theorem gL_law_X4_trace : GoodIn wsL_law (wsV RL 113 RX4 yX4_trace wsX4_trace) := goodIn_app (goodIn_of _ (by decide +kernel)) ggL_law_X4_trace
set_option maxRecDepth 20000 in
theorem ggL_law_X5_trace : GoodIn wsL_law wsX5_trace := goodIn_r _ [667, 635, 699, 700, 701, 702, 703, 704, 705, 706, 707, 708, 709, 710, 711, 712, 713, 714, 715, 716, 717, 718, 719, 720, 721, 722, 723] (by decide +kernel) (by decide +kernel)
set_option maxRecDepth 20000 in
theorem gL_law_X5_trace : GoodIn wsL_law (wsV RL 117 RX5 yX5_trace wsX5_trace) := goodIn_app (goodIn_of _ (by decide +kernel)) ggL_law_X5_trace
set_option maxRecDepth 20000 in
theorem ggL_law_X4_fault : GoodIn wsL_law wsX4_fault := goodIn_r _ [671, 79, 692, 693, 694, 695, 696, 697, 698] (by decide +kernel) (by decide +kernel)
set_option maxRecDepth 20000 in
theorem gL_law_X4_fault : GoodIn wsL_law (wsV RL 118 RX4 yX4_fault wsX4_fault) := goodIn_app (goodIn_of _ (by decide +kernel)) ggL_law_X4_fault
set_option maxRecDepth 20000 in
theorem ggL_law_X5_fault : GoodIn wsL_law wsX5_fault := goodIn_r _ [675, 140, 699, 700, 701, 702, 703, 704, 705, 706, 707, 708, 709, 710, 711, 712, 713, 714, 715, 716, 717, 718, 719, 720, 721, 722, 723] (by decide +kernel) (by decide +kernel)
set_option maxRecDepth 20000 in
theorem gL_law_X5_fault : GoodIn wsL_law (wsV RL 121 RX5 yX5_fault wsX5_fault) := goodIn_app (goodIn_of _ (by decide +kernel)) ggL_law_X5_fault
set_option maxRecDepth 20000 in
theorem ggL_law_X4_many : GoodIn wsL_law wsX4_many := goodIn_r _ [679, 15, 24, 680, 681, 682, 14, 683, 177, 692, 693, 694, 695, 696, 697, 698, 724, 725, 726, 727, 732, 733, 734, 735] (by decide +kernel) (by decide +kernel)
set_option maxRecDepth 20000 in
theorem gL_law_X4_many : GoodIn wsL_law (wsV RL 122 RX4 yX4_many wsX4_many) := goodIn_app (goodIn_of _ (by decide +kernel)) ggL_law_X4_many
set_option maxRecDepth 20000 in
theorem ggL_law_X5_many : GoodIn wsL_law wsX5_many := goodIn_r _ [687, 127, 128, 688, 689, 690, 5, 691, 60, 61, 699, 700, 701, 702, 703, 704, 705, 706, 707, 708, 709, 710, 711, 712, 713, 714, 715, 716, 717, 718, 719, 720, 721, 722, 723] (by decide +kernel) (by decide +kernel)
set_option maxRecDepth 20000 in
theorem gL_law_X5_many : GoodIn wsL_law (wsV RL 125 RX5 yX5_many wsX5_many) := goodIn_app (goodIn_of _ (by decide +kernel)) ggL_law_X5_many
theorem dL_law_0 : decode cL_law 0 = .ok (.new 7, 3) := by decide +kernel
theorem dL_law_3 : decode cL_law 3 = .ok (.dup, 1) := by decide +kernel
theorem dL_law_4 : decode cL_law 4 = .ok (.invokespecial 9, 3) := by decide +kernel
theorem dL_law_7 : decode cL_law 7 = .ok (.astore_n 1, 1) := by decide +kernel
theorem dL_law_8 : decode cL_law 8 = .ok (.new 10, 3) := by decide +kernel
theorem dL_law_11 : decode cL_law 11 = .ok (.dup, 1) := by decide +kernel
theorem dL_law_12 : decode cL_law 12 = .ok (.invokespecial 12, 3) := by decide +kernel
theorem dL_law_15 : decode cL_law 15 = .ok (.astore_n 2, 1) := by decide +kernel
theorem dL_law_16 : decode cL_law 16 = .ok (.iconst 0, 1) := by decide +kernel
theorem dL_law_17 : decode cL_law 17 = .ok (.istore_n 3, 1) := by decide +kernel
theorem dL_law_18 : decode cL_law 18 = .ok (.iload_n 3, 1) := by decide +kernel
theorem dL_law_19 : decode cL_law 19 = .ok (.aload_n 0, 1) := by decide +kernel
theorem dL_law_20 : decode cL_law 20 = .ok (.arraylength, 1) := by decide +kernel
theorem dL_law_21 : decode cL_law 21 = .ok (.bipush 7, 2) := by decide +kernel
theorem dL_law_23 : decode cL_law 23 = .ok (.isub, 1) := by decide +kernel
theorem dL_law_24 : decode cL_law 24 = .ok (.if_icmp .gt 1036, 3) := by decide +kernel
theorem dL_law_27 : decode cL_law 27 = .ok (.aload_n 0, 1) := by decide +kernel
theorem dL_law_28 : decode cL_law 28 = .ok (.iload_n 3, 1) := by decide +kernel
theorem dL_law_29 : decode cL_law 29 = .ok (.iaload, 1) := by decide +kernel
theorem dL_law_30 : decode cL_law 30 = .ok (.bipush 31, 2) := by decide +kernel
theorem dL_law_32 : decode cL_law 32 = .ok (.iand, 1) := by decide +kernel
theorem dL_law_33 : decode cL_law 33 = .ok (.tableswitch 1021 0 25 #[119, 172, 205, 248, 281, 324, 367, 442, 475, 508, 551, 574, 597, 620, 643, 677, 720, 743, 786, 830, 893, 916, 939, 972, 985, 998], 119) := by decide +kernel
theorem dL_law_152 : decode cL_law 152 = .ok (.aload_n 1, 1) := by decide +kernel
theorem dL_law_153 : decode cL_law 153 = .ok (.aload_n 0, 1) := by decide +kernel
theorem dL_law_154 : decode cL_law 154 = .ok (.iload_n 3, 1) := by decide +kernel
theorem dL_law_155 : decode cL_law 155 = .ok (.iconst 1, 1) := by decide +kernel
theorem dL_law_156 : decode cL_law 156 = .ok (.iadd, 1) := by decide +kernel
theorem dL_law_157 : decode cL_law 157 = .ok (.iaload, 1) := by decide +kernel
theorem dL_law_158 : decode cL_law 158 = .ok (.aload_n 0, 1) := by decide +kernel
theorem dL_law_159 : decode cL_law 159 = .ok (.iload_n 3, 1) := by decide +kernel
theorem dL_law_160 : decode cL_law 160 = .ok (.iconst 2, 1) := by decide +kernel
theorem dL_law_161 : decode cL_law 161 = .ok (.iadd, 1) := by decide +kernel
theorem dL_law_162 : decode cL_law 162 = .ok (.iaload, 1) := by decide +kernel
theorem dL_law_163 : decode cL_law 163 = .ok (.aload_n 0, 1) := by decide +kernel
theorem dL_law_164 : decode cL_law 164 = .ok (.iload_n 3, 1) := by decide +kernel
theorem dL_law_165 : decode cL_law 165 = .ok (.iconst 3, 1) := by decide +kernel
theorem dL_law_166 : decode cL_law 166 = .ok (.iadd, 1) := by decide +kernel
theorem dL_law_167 : decode cL_law 167 = .ok (.iaload, 1) := by decide +kernel
theorem dL_law_168 : decode cL_law 168 = .ok (.aload_n 0, 1) := by decide +kernel
theorem dL_law_169 : decode cL_law 169 = .ok (.iload_n 3, 1) := by decide +kernel
theorem dL_law_170 : decode cL_law 170 = .ok (.iconst 4, 1) := by decide +kernel
theorem dL_law_171 : decode cL_law 171 = .ok (.iadd, 1) := by decide +kernel
