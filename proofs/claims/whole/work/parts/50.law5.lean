set_option maxRecDepth 20000 in
theorem ggL_law_X5_init : GoodIn wsL_law wsX5_init := goodIn_r _ [8, 9, 10, 11, 12, 13, 14, 15, 16, 17, 18, 19, 20, 21, 22, 23, 24, 25, 26, 27, 28, 29, 30, 31, 32, 33, 34, 35, 36, 37, 38, 39, 40, 41, 42, 43, 44, 45, 46, 47, 48, 49, 50, 51, 52, 53, 54, 55, 56, 57, 58, 59, 60, 61, 62, 63, 64, 65, 66, 67, 68, 69, 70, 71, 72, 73, 74, 731, 732, 733, 734, 735, 736, 737, 738, 739, 695, 696, 697, 698, 699, 700, 701, 702, 703, 704, 740, 741, 742, 743, 744, 745, 746, 747, 748, 749, 750, 751, 752, 753, 754, 755] (by decide +kernel) (by decide +kernel)
set_option maxRecDepth 20000 in
theorem gL_law_X5_init : GoodIn wsL_law (wsX5_init) := ggL_law_X5_init
set_option maxRecDepth 20000 in
theorem ggL_law_X6_init : GoodIn wsL_law wsX6_init := goodIn_r _ [77, 78, 10, 11, 42, 79, 80, 81, 82, 83, 84, 85, 86, 31, 87, 88, 89, 90, 91, 92, 93, 5, 94, 95, 96, 97, 98, 99, 100, 101, 102, 103, 705, 706, 707, 708, 709, 710, 711, 712, 713, 714, 715, 716, 717, 718, 719, 720, 721, 722, 723, 724, 725, 726, 727, 728, 729, 730] (by decide +kernel) (by decide +kernel)
set_option maxRecDepth 20000 in
theorem gL_law_X6_init : GoodIn wsL_law (wsX6_init) := ggL_law_X6_init
set_option maxRecDepth 20000 in
theorem ggL_law_X5_type : GoodIn wsL_law wsX5_type := goodIn_r _ [107, 20, 108, 109, 110, 111, 19, 112, 113, 60, 695, 696, 697, 698, 699, 700, 701, 702, 703, 704, 740, 741, 742, 743, 744] (by decide +kernel) (by decide +kernel)
set_option maxRecDepth 20000 in
theorem gL_law_X5_type : GoodIn wsL_law (wsV RL 13 RX5 yX5_type wsX5_type) := goodIn_app (goodIn_of _ (by decide +kernel)) ggL_law_X5_type
set_option maxRecDepth 20000 in
theorem ggL_law_X6_type : GoodIn wsL_law wsX6_type := goodIn_r _ [117, 118, 101, 79, 119, 120, 5, 121, 705, 706, 707, 708, 709, 710, 711, 712, 713, 714, 715, 716, 717, 718, 719, 720, 721, 722, 723, 724, 725, 726, 727, 728, 729, 730] (by decide +kernel) (by decide +kernel)
set_option maxRecDepth 20000 in
theorem gL_law_X6_type : GoodIn wsL_law (wsV RL 17 RX6 yX6_type wsX6_type) := goodIn_app (goodIn_of _ (by decide +kernel)) ggL_law_X6_type
set_option maxRecDepth 20000 in
theorem ggL_law_X5_clear : GoodIn wsL_law wsX5_clear := goodIn_r _ [125, 20, 108, 695, 696, 697, 698, 699, 700, 701, 702, 703, 704, 740, 741, 742, 743, 744] (by decide +kernel) (by decide +kernel)
set_option maxRecDepth 20000 in
theorem gL_law_X5_clear : GoodIn wsL_law (wsV RL 18 RX5 yX5_clear wsX5_clear) := goodIn_app (goodIn_of _ (by decide +kernel)) ggL_law_X5_clear
set_option maxRecDepth 20000 in
theorem ggL_law_X6_clear : GoodIn wsL_law wsX6_clear := goodIn_r _ [129, 118, 101, 705, 706, 707, 708, 709, 710, 711, 712, 713, 714, 715, 716, 717, 718, 719, 720, 721, 722, 723, 724, 725, 726, 727, 728, 729, 730] (by decide +kernel) (by decide +kernel)
set_option maxRecDepth 20000 in
theorem gL_law_X6_clear : GoodIn wsL_law (wsV RL 22 RX6 yX6_clear wsX6_clear) := goodIn_app (goodIn_of _ (by decide +kernel)) ggL_law_X6_clear
set_option maxRecDepth 20000 in
theorem ggL_law_X5_house : GoodIn wsL_law wsX5_house := goodIn_r _ [133, 20, 16, 15, 108, 134, 135, 136, 19, 137, 138, 139, 140, 113, 141, 47, 48, 14, 49, 50, 51, 52, 53, 54, 55, 142, 143, 144, 145, 60, 146, 147, 148, 149, 150, 151, 152, 153, 154, 155, 156, 157, 158, 159, 160, 161, 162, 163, 164, 165, 166, 167, 168, 169, 170, 171, 172, 173, 43, 44, 45, 174, 175, 176, 177, 178, 179, 180, 181, 182, 183, 184, 185, 186, 187, 188, 189, 2, 190, 24, 191, 192, 193, 194, 195, 196, 197, 29, 198, 36, 199, 32, 695, 696, 697, 698, 699, 700, 701, 702, 703, 704, 740, 741, 742, 743, 744, 731, 732, 733, 734, 735, 736, 737, 738, 739, 745, 746, 747, 748, 749, 750, 751, 752, 753, 754, 755] (by decide +kernel) (by decide +kernel)
set_option maxRecDepth 20000 in
theorem gL_law_X5_house : GoodIn wsL_law (wsV RL 23 RX5 yX5_house wsX5_house) := goodIn_app (goodIn_of _ (by decide +kernel)) ggL_law_X5_house
set_option maxRecDepth 20000 in
theorem ggL_law_X6_house : GoodIn wsL_law wsX6_house := goodIn_r _ [203, 118, 204, 205, 206, 207, 80, 95, 91, 92, 93, 5, 94, 96, 208, 209, 210, 211, 212, 213, 214, 215, 216, 101, 79, 119, 120, 121, 217, 218, 219, 220, 221, 222, 223, 224, 225, 226, 227, 228, 81, 82, 83, 229, 230, 231, 232, 97, 98, 99, 100, 84, 102, 103, 87, 705, 706, 707, 708, 709, 710, 711, 712, 713, 714, 715, 716, 717, 718, 719, 720, 721, 722, 723, 724, 725, 726, 727, 728, 729, 730] (by decide +kernel) (by decide +kernel)
set_option maxRecDepth 20000 in
theorem gL_law_X6_house : GoodIn wsL_law (wsV RL 26 RX6 yX6_house wsX6_house) := goodIn_app (goodIn_of _ (by decide +kernel)) ggL_law_X6_house
set_option maxRecDepth 20000 in
theorem ggL_law_X5_thing : GoodIn wsL_law wsX5_thing := goodIn_r _ [236, 15, 237, 238, 239, 24, 194, 195, 196, 240, 241, 242, 14, 243, 50, 244, 245, 2, 246, 247, 248, 249, 250, 192, 251, 252, 253, 254, 255, 256, 257, 258, 259, 43, 260, 261, 262, 263, 264, 265, 266, 267, 268, 269, 270, 271, 272, 273, 274, 45, 695, 696, 697, 698, 699, 700, 701, 702, 703, 704, 731, 732, 733, 734, 735, 736, 737, 738, 739, 745, 746, 747, 748, 749] (by decide +kernel) (by decide +kernel)
set_option maxRecDepth 20000 in
theorem gL_law_X5_thing : GoodIn wsL_law (wsV RL 27 RX5 yX5_thing wsX5_thing) := goodIn_app (goodIn_of _ (by decide +kernel)) ggL_law_X5_thing
set_option maxRecDepth 20000 in
theorem ggL_law_X6_thing : GoodIn wsL_law wsX6_thing := goodIn_r _ [278, 118, 81, 82, 83, 84, 279, 280, 281, 5, 282, 80, 119, 120, 121, 283, 284, 285, 286, 287, 288, 289, 290, 291, 292, 293, 294, 705, 706, 707, 708, 709, 710, 711, 712, 713, 714, 715, 716, 717, 718, 719, 720, 721, 722, 723, 724, 725, 726, 727, 728, 729, 730] (by decide +kernel) (by decide +kernel)
set_option maxRecDepth 20000 in
theorem gL_law_X6_thing : GoodIn wsL_law (wsV RL 31 RX6 yX6_thing wsX6_thing) := goodIn_app (goodIn_of _ (by decide +kernel)) ggL_law_X6_thing
set_option maxRecDepth 20000 in
theorem ggL_law_X5_now : GoodIn wsL_law wsX5_now := goodIn_r _ [298, 24, 197, 192, 196, 15, 29, 198, 247, 248, 249, 2, 250, 251, 252, 253, 14, 254, 255, 256, 257, 258, 259, 50, 43, 260, 261, 262, 263, 264, 265, 266, 267, 268, 269, 270, 271, 272, 273, 274, 45, 299, 300, 301, 302, 44, 245, 246, 695, 696, 697, 698, 699, 700, 701, 702, 703, 704, 745, 746, 747, 748, 749, 750, 751, 752, 731, 732, 733, 734, 735, 736, 737, 738, 739] (by decide +kernel) (by decide +kernel)
set_option maxRecDepth 20000 in
theorem gL_law_X5_now : GoodIn wsL_law (wsV RL 32 RX5 yX5_now wsX5_now) := goodIn_app (goodIn_of _ (by decide +kernel)) ggL_law_X5_now
set_option maxRecDepth 20000 in
theorem ggL_law_X6_now : GoodIn wsL_law wsX6_now := goodIn_r _ [306, 118, 84, 103, 119, 120, 5, 121, 283, 284, 285, 286, 80, 287, 288, 289, 290, 81, 291, 292, 293, 294, 83, 307, 308, 309, 310, 82, 705, 706, 707, 708, 709, 710, 711, 712, 713, 714, 715, 716, 717, 718, 719, 720, 721, 722, 723, 724, 725, 726, 727, 728, 729, 730] (by decide +kernel) (by decide +kernel)
set_option maxRecDepth 20000 in
theorem gL_law_X6_now : GoodIn wsL_law (wsV RL 35 RX6 yX6_now wsX6_now) := goodIn_app (goodIn_of _ (by decide +kernel)) ggL_law_X6_now
set_option maxRecDepth 20000 in
theorem ggL_law_X5_swears : GoodIn wsL_law wsX5_swears := goodIn_r _ [314, 29, 24, 192, 315, 316, 2, 317, 318, 319, 320, 28, 321, 69, 322, 323, 324, 163, 164, 165, 325, 326, 327, 23, 328, 329, 330, 331, 332, 333, 247, 248, 249, 250, 15, 251, 252, 253, 14, 254, 255, 256, 257, 258, 259, 50, 43, 334, 335, 336, 337, 338, 339, 340, 695, 696, 697, 698, 699, 700, 701, 702, 703, 704, 745, 746, 747, 748, 749, 750, 751, 752, 731, 732, 733, 734, 735, 736, 737, 738, 739] (by decide +kernel) (by decide +kernel)
set_option maxRecDepth 20000 in
theorem gL_law_X5_swears : GoodIn wsL_law (wsV RL 36 RX5 yX5_swears wsX5_swears) := goodIn_app (goodIn_of _ (by decide +kernel)) ggL_law_X5_swears
set_option maxRecDepth 20000 in
theorem ggL_law_X6_swears : GoodIn wsL_law wsX6_swears := goodIn_r _ [344, 118, 84, 119, 120, 5, 121, 345, 346, 347, 348, 103, 88, 283, 284, 285, 286, 80, 287, 288, 289, 290, 81, 349, 350, 351, 705, 706, 707, 708, 709, 710, 711, 712, 713, 714, 715, 716, 717, 718, 719, 720, 721, 722, 723, 724, 725, 726, 727, 728, 729, 730] (by decide +kernel) (by decide +kernel)
set_option maxRecDepth 20000 in
theorem gL_law_X6_swears : GoodIn wsL_law (wsV RL 39 RX6 yX6_swears wsX6_swears) := goodIn_app (goodIn_of _ (by decide +kernel)) ggL_law_X6_swears
set_option maxRecDepth 20000 in
theorem ggL_law_X5_keepsIn : GoodIn wsL_law wsX5_keepsIn := goodIn_r _ [355, 15, 29, 24, 195, 240, 241, 242, 14, 243, 50, 356, 357, 2, 358, 318, 319, 320, 28, 321, 69, 322, 323, 324, 163, 164, 165, 325, 326, 327, 23, 328, 329, 330, 331, 332, 333, 244, 245, 246, 359, 360, 361, 695, 696, 697, 698, 699, 700, 701, 702, 703, 704, 745, 746, 747, 748, 749, 731, 732, 733, 734, 735, 736, 737, 738, 739, 750, 751, 752] (by decide +kernel) (by decide +kernel)
set_option maxRecDepth 20000 in
theorem gL_law_X5_keepsIn : GoodIn wsL_law (wsV RL 40 RX5 yX5_keepsIn wsX5_keepsIn) := goodIn_app (goodIn_of _ (by decide +kernel)) ggL_law_X5_keepsIn
set_option maxRecDepth 20000 in
theorem ggL_law_X6_keepsIn : GoodIn wsL_law wsX6_keepsIn := goodIn_r _ [365, 118, 366, 367, 368, 5, 369, 84, 279, 280, 281, 282, 80, 119, 120, 121, 345, 346, 347, 348, 103, 88, 705, 706, 707, 708, 709, 710, 711, 712, 713, 714, 715, 716, 717, 718, 719, 720, 721, 722, 723, 724, 725, 726, 727, 728, 729, 730] (by decide +kernel) (by decide +kernel)
set_option maxRecDepth 20000 in
theorem gL_law_X6_keepsIn : GoodIn wsL_law (wsV RL 43 RX6 yX6_keepsIn wsX6_keepsIn) := goodIn_app (goodIn_of _ (by decide +kernel)) ggL_law_X6_keepsIn
set_option maxRecDepth 20000 in
theorem ggL_law_X5_tells : GoodIn wsL_law wsX5_tells := goodIn_r _ [373, 15, 29, 24, 194, 240, 241, 242, 14, 243, 50, 356, 357, 2, 358, 318, 319, 320, 28, 321, 69, 322, 323, 324, 163, 164, 165, 325, 326, 327, 23, 328, 329, 330, 331, 332, 333, 244, 245, 246, 359, 360, 361, 695, 696, 697, 698, 699, 700, 701, 702, 703, 704, 745, 746, 747, 748, 749, 731, 732, 733, 734, 735, 736, 737, 738, 739, 750, 751, 752] (by decide +kernel) (by decide +kernel)
set_option maxRecDepth 20000 in
theorem gL_law_X5_tells : GoodIn wsL_law (wsV RL 44 RX5 yX5_tells wsX5_tells) := goodIn_app (goodIn_of _ (by decide +kernel)) ggL_law_X5_tells
set_option maxRecDepth 20000 in
theorem ggL_law_X6_tells : GoodIn wsL_law wsX6_tells := goodIn_r _ [377, 118, 366, 367, 368, 5, 369, 84, 279, 280, 281, 282, 80, 119, 120, 121, 345, 346, 347, 348, 103, 88, 705, 706, 707, 708, 709, 710, 711, 712, 713, 714, 715, 716, 717, 718, 719, 720, 721, 722, 723, 724, 725, 726, 727, 728, 729, 730] (by decide +kernel) (by decide +kernel)
set_option maxRecDepth 20000 in
theorem gL_law_X6_tells : GoodIn wsL_law (wsV RL 47 RX6 yX6_tells wsX6_tells) := goodIn_app (goodIn_of _ (by decide +kernel)) ggL_law_X6_tells
set_option maxRecDepth 20000 in
theorem ggL_law_X5_day : GoodIn wsL_law wsX5_day := goodIn_r _ [381, 24, 197, 29, 382, 383, 2, 384, 318, 319, 320, 28, 321, 69, 322, 323, 324, 163, 164, 165, 325, 326, 327, 23, 328, 329, 330, 331, 332, 333, 385, 386, 387, 388, 15, 192, 196, 264, 265, 266, 14, 267, 268, 255, 269, 270, 252, 253, 254, 256, 257, 258, 259, 50, 43, 271, 272, 273, 274, 45, 389, 390, 391, 392, 245, 246, 393, 394, 395, 396, 397, 398, 399, 400, 401, 402, 403, 251, 695, 696, 697, 698, 699, 700, 701, 702, 703, 704, 745, 746, 747, 748, 749, 750, 751, 752, 731, 732, 733, 734, 735, 736, 737, 738, 739] (by decide +kernel) (by decide +kernel)
set_option maxRecDepth 20000 in
theorem gL_law_X5_day : GoodIn wsL_law (wsV RL 48 RX5 yX5_day wsX5_day) := goodIn_app (goodIn_of _ (by decide +kernel)) ggL_law_X5_day
set_option maxRecDepth 20000 in
theorem ggL_law_X6_day : GoodIn wsL_law wsX6_day := goodIn_r _ [407, 118, 84, 119, 120, 5, 121, 345, 346, 347, 348, 103, 88, 408, 409, 410, 411, 412, 413, 414, 415, 416, 417, 418, 419, 83, 291, 292, 293, 294, 80, 283, 284, 285, 286, 287, 288, 289, 290, 81, 420, 421, 422, 423, 705, 706, 707, 708, 709, 710, 711, 712, 713, 714, 715, 716, 717, 718, 719, 720, 721, 722, 723, 724, 725, 726, 727, 728, 729, 730] (by decide +kernel) (by decide +kernel)
set_option maxRecDepth 20000 in
theorem gL_law_X6_day : GoodIn wsL_law (wsV RL 51 RX6 yX6_day wsX6_day) := goodIn_app (goodIn_of _ (by decide +kernel)) ggL_law_X6_day
set_option maxRecDepth 20000 in
theorem ggL_law_X5_undo : GoodIn wsL_law wsX5_undo := goodIn_r _ [427, 29, 198, 24, 428, 429, 430, 28, 431, 322, 323, 69, 325, 326, 327, 23, 328, 329, 330, 331, 332, 333, 695, 696, 697, 698, 699, 700, 701, 702, 703, 704, 750, 751, 752, 745, 746, 747, 748, 749] (by decide +kernel) (by decide +kernel)
set_option maxRecDepth 20000 in
theorem gL_law_X5_undo : GoodIn wsL_law (wsV RL 52 RX5 yX5_undo wsX5_undo) := goodIn_app (goodIn_of _ (by decide +kernel)) ggL_law_X5_undo
set_option maxRecDepth 20000 in
theorem ggL_law_X6_undo : GoodIn wsL_law wsX6_undo := goodIn_r _ [435, 118, 103, 84, 88, 705, 706, 707, 708, 709, 710, 711, 712, 713, 714, 715, 716, 717, 718, 719, 720, 721, 722, 723, 724, 725, 726, 727, 728, 729, 730] (by decide +kernel) (by decide +kernel)
set_option maxRecDepth 20000 in
theorem gL_law_X6_undo : GoodIn wsL_law (wsV RL 55 RX6 yX6_undo wsX6_undo) := goodIn_app (goodIn_of _ (by decide +kernel)) ggL_law_X6_undo
set_option maxRecDepth 20000 in
theorem ggL_law_X5_harm : GoodIn wsL_law wsX5_harm := goodIn_r _ [439, 15, 356, 357, 2, 358, 260, 261, 262, 263, 24, 192, 264, 265, 266, 14, 267, 268, 255, 269, 270, 252, 253, 254, 256, 257, 258, 259, 50, 43, 271, 272, 273, 274, 45, 247, 248, 249, 250, 251, 440, 441, 442, 443, 44, 245, 246, 444, 445, 446, 447, 448, 449, 164, 450, 451, 390, 391, 392, 452, 453, 454, 455, 456, 457, 458, 459, 460, 695, 696, 697, 698, 699, 700, 701, 702, 703, 704, 745, 746, 747, 748, 749, 731, 732, 733, 734, 735, 736, 737, 738, 739] (by decide +kernel) (by decide +kernel)
set_option maxRecDepth 20000 in
theorem gL_law_X5_harm : GoodIn wsL_law (wsV RL 56 RX5 yX5_harm wsX5_harm) := goodIn_app (goodIn_of _ (by decide +kernel)) ggL_law_X5_harm
set_option maxRecDepth 20000 in
theorem ggL_law_X6_harm : GoodIn wsL_law wsX6_harm := goodIn_r _ [464, 118, 84, 465, 466, 119, 120, 5, 121, 467, 468, 469, 470, 291, 292, 293, 294, 80, 83, 283, 284, 285, 286, 287, 288, 289, 290, 81, 307, 308, 309, 310, 82, 420, 421, 422, 423, 471, 472, 473, 474, 475, 476, 705, 706, 707, 708, 709, 710, 711, 712, 713, 714, 715, 716, 717, 718, 719, 720, 721, 722, 723, 724, 725, 726, 727, 728, 729, 730] (by decide +kernel) (by decide +kernel)
set_option maxRecDepth 20000 in
theorem gL_law_X6_harm : GoodIn wsL_law (wsV RL 59 RX6 yX6_harm wsX6_harm) := goodIn_app (goodIn_of _ (by decide +kernel)) ggL_law_X6_harm
set_option maxRecDepth 20000 in
theorem ggL_law_X5_odds : GoodIn wsL_law wsX5_odds := goodIn_r _ [480, 15, 239, 240, 241, 242, 14, 243, 50, 356, 357, 2, 358, 260, 261, 262, 263, 24, 192, 264, 265, 266, 267, 268, 255, 269, 270, 252, 253, 254, 256, 257, 258, 259, 43, 271, 272, 273, 274, 45, 244, 245, 246, 444, 445, 446, 447, 448, 449, 164, 450, 451, 390, 391, 392, 452, 453, 454, 455, 456, 457, 458, 459, 460, 695, 696, 697, 698, 699, 700, 701, 702, 703, 704, 731, 732, 733, 734, 735, 736, 737, 738, 739, 745, 746, 747, 748, 749] (by decide +kernel) (by decide +kernel)
set_option maxRecDepth 20000 in
theorem gL_law_X5_odds : GoodIn wsL_law (wsV RL 60 RX5 yX5_odds wsX5_odds) := goodIn_app (goodIn_of _ (by decide +kernel)) ggL_law_X5_odds
set_option maxRecDepth 20000 in
theorem ggL_law_X6_odds : GoodIn wsL_law wsX6_odds := goodIn_r _ [484, 118, 84, 83, 279, 280, 281, 5, 282, 80, 119, 120, 121, 291, 292, 293, 294, 283, 284, 285, 286, 287, 288, 289, 290, 81, 420, 421, 422, 423, 471, 472, 473, 474, 475, 476, 705, 706, 707, 708, 709, 710, 711, 712, 713, 714, 715, 716, 717, 718, 719, 720, 721, 722, 723, 724, 725, 726, 727, 728, 729, 730] (by decide +kernel) (by decide +kernel)
set_option maxRecDepth 20000 in
theorem gL_law_X6_odds : GoodIn wsL_law (wsV RL 63 RX6 yX6_odds wsX6_odds) := goodIn_app (goodIn_of _ (by decide +kernel)) ggL_law_X6_odds
set_option maxRecDepth 20000 in
theorem ggL_law_X5_swear : GoodIn wsL_law wsX5_swear := goodIn_r _ [488, 489, 15, 490, 491, 492, 356, 357, 2, 358, 260, 261, 262, 263, 24, 192, 264, 265, 266, 14, 267, 268, 255, 269, 270, 252, 253, 254, 256, 257, 258, 259, 50, 43, 271, 272, 273, 274, 45, 247, 248, 249, 250, 251, 440, 441, 442, 443, 44, 245, 246, 444, 445, 446, 447, 448, 449, 164, 450, 451, 390, 391, 392, 452, 453, 454, 455, 456, 457, 458, 459, 460, 695, 696, 697, 698, 699, 700, 701, 702, 703, 704, 731, 732, 733, 734, 735, 736, 737, 738, 739, 745, 746, 747, 748, 749] (by decide +kernel) (by decide +kernel)
set_option maxRecDepth 20000 in
theorem gL_law_X5_swear : GoodIn wsL_law (wsV RL 64 RX5 yX5_swear wsX5_swear) := goodIn_app (goodIn_of _ (by decide +kernel)) ggL_law_X5_swear
set_option maxRecDepth 20000 in
theorem ggL_law_X6_swear : GoodIn wsL_law wsX6_swear := goodIn_r _ [496, 118, 497, 84, 80, 466, 465, 119, 120, 5, 121, 467, 468, 469, 470, 291, 292, 293, 294, 83, 283, 284, 285, 286, 287, 288, 289, 290, 81, 307, 308, 309, 310, 82, 420, 421, 422, 423, 471, 472, 473, 474, 475, 476, 705, 706, 707, 708, 709, 710, 711, 712, 713, 714, 715, 716, 717, 718, 719, 720, 721, 722, 723, 724, 725, 726, 727, 728, 729, 730] (by decide +kernel) (by decide +kernel)
set_option maxRecDepth 20000 in
theorem gL_law_X6_swear : GoodIn wsL_law (wsV RL 67 RX6 yX6_swear wsX6_swear) := goodIn_app (goodIn_of _ (by decide +kernel)) ggL_law_X6_swear
set_option maxRecDepth 20000 in
theorem ggL_law_X5_sense : GoodIn wsL_law wsX5_sense := goodIn_r _ [501, 15, 502, 237, 24, 192, 196, 334, 335, 336, 337, 338, 339, 340, 695, 696, 697, 698, 699, 700, 701, 702, 703, 704, 731, 732, 733, 734, 735, 736, 737, 738, 739, 745, 746, 747, 748, 749] (by decide +kernel) (by decide +kernel)
set_option maxRecDepth 20000 in
theorem gL_law_X5_sense : GoodIn wsL_law (wsV RL 68 RX5 yX5_sense wsX5_sense) := goodIn_app (goodIn_of _ (by decide +kernel)) ggL_law_X5_sense
set_option maxRecDepth 20000 in
theorem ggL_law_X6_sense : GoodIn wsL_law wsX6_sense := goodIn_r _ [506, 118, 80, 81, 84, 119, 120, 5, 121, 349, 350, 351, 705, 706, 707, 708, 709, 710, 711, 712, 713, 714, 715, 716, 717, 718, 719, 720, 721, 722, 723, 724, 725, 726, 727, 728, 729, 730] (by decide +kernel) (by decide +kernel)
set_option maxRecDepth 20000 in
theorem gL_law_X6_sense : GoodIn wsL_law (wsV RL 71 RX6 yX6_sense wsX6_sense) := goodIn_app (goodIn_of _ (by decide +kernel)) ggL_law_X6_sense
