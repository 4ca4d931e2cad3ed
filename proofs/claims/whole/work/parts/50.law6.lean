set_option maxRecDepth 20000 in
theorem ggL_law_X5_both : GoodIn wsL_law wsX5_both := goodIn_r _ [510, 15, 24, 315, 316, 2, 317, 247, 248, 249, 250, 192, 251, 252, 253, 14, 254, 255, 256, 257, 258, 259, 50, 43, 695, 696, 697, 698, 699, 700, 701, 702, 703, 704, 745, 746, 747, 748, 749, 731, 732, 733, 734, 735, 736, 737, 738, 739] (by decide +kernel) (by decide +kernel)
set_option maxRecDepth 20000 in
theorem gL_law_X5_both : GoodIn wsL_law (wsV RL 72 RX5 yX5_both wsX5_both) := goodIn_app (goodIn_of _ (by decide +kernel)) ggL_law_X5_both
set_option maxRecDepth 20000 in
theorem ggL_law_X6_both : GoodIn wsL_law wsX6_both := goodIn_r _ [514, 118, 85, 84, 119, 120, 5, 121, 515, 516, 517, 518, 283, 284, 285, 286, 80, 287, 288, 289, 290, 81, 705, 706, 707, 708, 709, 710, 711, 712, 713, 714, 715, 716, 717, 718, 719, 720, 721, 722, 723, 724, 725, 726, 727, 728, 729, 730] (by decide +kernel) (by decide +kernel)
set_option maxRecDepth 20000 in
theorem gL_law_X6_both : GoodIn wsL_law (wsV RL 75 RX6 yX6_both wsX6_both) := goodIn_app (goodIn_of _ (by decide +kernel)) ggL_law_X6_both
set_option maxRecDepth 20000 in
theorem ggL_law_X5_means : GoodIn wsL_law wsX5_means := goodIn_r _ [522, 15, 502, 24, 264, 265, 266, 14, 267, 268, 255, 269, 270, 252, 253, 254, 256, 257, 258, 259, 50, 43, 271, 272, 273, 274, 45, 251, 523, 524, 2, 525, 334, 335, 336, 337, 338, 339, 340, 695, 696, 697, 698, 699, 700, 701, 702, 703, 704, 731, 732, 733, 734, 735, 736, 737, 738, 739, 745, 746, 747, 748, 749] (by decide +kernel) (by decide +kernel)
set_option maxRecDepth 20000 in
theorem gL_law_X5_means : GoodIn wsL_law (wsV RL 76 RX5 yX5_means wsX5_means) := goodIn_app (goodIn_of _ (by decide +kernel)) ggL_law_X5_means
set_option maxRecDepth 20000 in
theorem ggL_law_X6_means : GoodIn wsL_law wsX6_means := goodIn_r _ [529, 118, 85, 530, 531, 532, 5, 533, 80, 119, 120, 121, 515, 516, 517, 518, 84, 291, 292, 293, 294, 83, 283, 284, 285, 286, 287, 288, 289, 290, 81, 349, 350, 351, 705, 706, 707, 708, 709, 710, 711, 712, 713, 714, 715, 716, 717, 718, 719, 720, 721, 722, 723, 724, 725, 726, 727, 728, 729, 730] (by decide +kernel) (by decide +kernel)
set_option maxRecDepth 20000 in
theorem gL_law_X6_means : GoodIn wsL_law (wsV RL 79 RX6 yX6_means wsX6_means) := goodIn_app (goodIn_of _ (by decide +kernel)) ggL_law_X6_means
set_option maxRecDepth 20000 in
theorem ggL_law_X5_span : GoodIn wsL_law wsX5_span := goodIn_r _ [537, 15, 24, 251, 252, 253, 14, 254, 255, 256, 257, 258, 259, 50, 43, 334, 335, 336, 337, 338, 339, 340, 523, 524, 2, 525, 695, 696, 697, 698, 699, 700, 701, 702, 703, 704, 745, 746, 747, 748, 749, 731, 732, 733, 734, 735, 736, 737, 738, 739] (by decide +kernel) (by decide +kernel)
set_option maxRecDepth 20000 in
theorem gL_law_X5_span : GoodIn wsL_law (wsV RL 80 RX5 yX5_span wsX5_span) := goodIn_app (goodIn_of _ (by decide +kernel)) ggL_law_X5_span
set_option maxRecDepth 20000 in
theorem ggL_law_X6_span : GoodIn wsL_law wsX6_span := goodIn_r _ [541, 118, 85, 515, 516, 517, 5, 518, 84, 283, 284, 285, 286, 80, 287, 288, 289, 290, 81, 349, 350, 351, 705, 706, 707, 708, 709, 710, 711, 712, 713, 714, 715, 716, 717, 718, 719, 720, 721, 722, 723, 724, 725, 726, 727, 728, 729, 730] (by decide +kernel) (by decide +kernel)
set_option maxRecDepth 20000 in
theorem gL_law_X6_span : GoodIn wsL_law (wsV RL 83 RX6 yX6_span wsX6_span) := goodIn_app (goodIn_of _ (by decide +kernel)) ggL_law_X6_span
set_option maxRecDepth 20000 in
theorem ggL_law_X5_shut : GoodIn wsL_law wsX5_shut := goodIn_r _ [545, 15, 546, 547, 548, 2, 549, 502, 260, 261, 262, 263, 24, 192, 264, 265, 266, 14, 267, 268, 255, 269, 270, 252, 253, 254, 256, 257, 258, 259, 50, 43, 271, 272, 273, 274, 45, 247, 248, 249, 250, 251, 440, 441, 442, 443, 44, 245, 246, 444, 445, 446, 447, 448, 449, 164, 450, 451, 390, 391, 392, 334, 335, 336, 337, 338, 339, 340, 550, 551, 552, 452, 453, 454, 455, 456, 457, 458, 459, 460, 695, 696, 697, 698, 699, 700, 701, 702, 703, 704, 731, 732, 733, 734, 735, 736, 737, 738, 739, 745, 746, 747, 748, 749] (by decide +kernel) (by decide +kernel)
set_option maxRecDepth 20000 in
theorem gL_law_X5_shut : GoodIn wsL_law (wsV RL 84 RX5 yX5_shut wsX5_shut) := goodIn_app (goodIn_of _ (by decide +kernel)) ggL_law_X5_shut
set_option maxRecDepth 20000 in
theorem ggL_law_X6_shut : GoodIn wsL_law wsX6_shut := goodIn_r _ [556, 118, 84, 465, 466, 85, 119, 120, 5, 121, 515, 516, 517, 518, 291, 292, 293, 294, 80, 83, 283, 284, 285, 286, 287, 288, 289, 290, 81, 467, 468, 469, 470, 307, 308, 309, 310, 82, 420, 421, 422, 423, 349, 350, 351, 471, 472, 473, 474, 475, 476, 705, 706, 707, 708, 709, 710, 711, 712, 713, 714, 715, 716, 717, 718, 719, 720, 721, 722, 723, 724, 725, 726, 727, 728, 729, 730] (by decide +kernel) (by decide +kernel)
set_option maxRecDepth 20000 in
theorem gL_law_X6_shut : GoodIn wsL_law (wsV RL 87 RX6 yX6_shut wsX6_shut) := goodIn_app (goodIn_of _ (by decide +kernel)) ggL_law_X6_shut
set_option maxRecDepth 20000 in
theorem ggL_law_X5_tell : GoodIn wsL_law wsX5_tell := goodIn_r _ [560, 15, 260, 261, 262, 2, 263, 24, 192, 264, 265, 266, 14, 267, 268, 255, 269, 270, 252, 253, 254, 256, 257, 258, 259, 50, 43, 271, 272, 273, 274, 45, 247, 248, 249, 250, 251, 561, 562, 563, 564, 44, 695, 696, 697, 698, 699, 700, 701, 702, 703, 704, 745, 746, 747, 748, 749, 731, 732, 733, 734, 735, 736, 737, 738, 739] (by decide +kernel) (by decide +kernel)
set_option maxRecDepth 20000 in
theorem gL_law_X5_tell : GoodIn wsL_law (wsV RL 88 RX5 yX5_tell wsX5_tell) := goodIn_app (goodIn_of _ (by decide +kernel)) ggL_law_X5_tell
set_option maxRecDepth 20000 in
theorem ggL_law_X6_tell : GoodIn wsL_law wsX6_tell := goodIn_r _ [568, 118, 85, 84, 465, 515, 516, 517, 5, 518, 530, 531, 532, 533, 80, 467, 468, 469, 470, 466, 291, 292, 293, 294, 83, 283, 284, 285, 286, 287, 288, 289, 290, 81, 307, 308, 309, 310, 82, 420, 421, 422, 423, 349, 350, 351, 705, 706, 707, 708, 709, 710, 711, 712, 713, 714, 715, 716, 717, 718, 719, 720, 721, 722, 723, 724, 725, 726, 727, 728, 729, 730] (by decide +kernel) (by decide +kernel)
set_option maxRecDepth 20000 in
theorem gL_law_X6_tell : GoodIn wsL_law (wsV RL 91 RX6 yX6_tell wsX6_tell) := goodIn_app (goodIn_of _ (by decide +kernel)) ggL_law_X6_tell
set_option maxRecDepth 20000 in
theorem ggL_law_X5_saw : GoodIn wsL_law wsX5_saw := goodIn_r _ [572, 15, 36, 199, 240, 241, 242, 14, 243, 50, 356, 357, 2, 358, 573, 574, 575, 35, 576, 577, 73, 74, 695, 696, 697, 698, 699, 700, 701, 702, 703, 704, 753, 754, 755, 731, 732, 733, 734, 735, 736, 737, 738, 739] (by decide +kernel) (by decide +kernel)
set_option maxRecDepth 20000 in
theorem gL_law_X5_saw : GoodIn wsL_law (wsV RL 92 RX5 yX5_saw wsX5_saw) := goodIn_app (goodIn_of _ (by decide +kernel)) ggL_law_X5_saw
set_option maxRecDepth 20000 in
theorem ggL_law_X6_saw : GoodIn wsL_law wsX6_saw := goodIn_r _ [581, 118, 102, 89, 90, 279, 280, 281, 5, 282, 80, 119, 120, 121, 705, 706, 707, 708, 709, 710, 711, 712, 713, 714, 715, 716, 717, 718, 719, 720, 721, 722, 723, 724, 725, 726, 727, 728, 729, 730] (by decide +kernel) (by decide +kernel)
set_option maxRecDepth 20000 in
theorem gL_law_X6_saw : GoodIn wsL_law (wsV RL 95 RX6 yX6_saw wsX6_saw) := goodIn_app (goodIn_of _ (by decide +kernel)) ggL_law_X6_saw
set_option maxRecDepth 20000 in
theorem ggL_law_X5_forget : GoodIn wsL_law wsX5_forget := goodIn_r _ [585, 36, 199, 695, 696, 697, 698, 699, 700, 701, 702, 703, 704, 753, 754, 755] (by decide +kernel) (by decide +kernel)
set_option maxRecDepth 20000 in
theorem gL_law_X5_forget : GoodIn wsL_law (wsV RL 96 RX5 yX5_forget wsX5_forget) := goodIn_app (goodIn_of _ (by decide +kernel)) ggL_law_X5_forget
set_option maxRecDepth 20000 in
theorem ggL_law_X6_forget : GoodIn wsL_law wsX6_forget := goodIn_r _ [589, 118, 102, 705, 706, 707, 708, 709, 710, 711, 712, 713, 714, 715, 716, 717, 718, 719, 720, 721, 722, 723, 724, 725, 726, 727, 728, 729, 730] (by decide +kernel) (by decide +kernel)
set_option maxRecDepth 20000 in
theorem gL_law_X6_forget : GoodIn wsL_law (wsV RL 99 RX6 yX6_forget wsX6_forget) := goodIn_app (goodIn_of _ (by decide +kernel)) ggL_law_X6_forget
set_option maxRecDepth 20000 in
theorem ggL_law_X5_fit : GoodIn wsL_law wsX5_fit := goodIn_r _ [593, 36, 15, 594, 257, 258, 14, 259, 50, 43, 595, 596, 597, 35, 598, 577, 73, 74, 245, 2, 246, 695, 696, 697, 698, 699, 700, 701, 702, 703, 704, 731, 732, 733, 734, 735, 736, 737, 738, 739, 753, 754, 755] (by decide +kernel) (by decide +kernel)
set_option maxRecDepth 20000 in
theorem gL_law_X5_fit : GoodIn wsL_law (wsV RL 100 RX5 yX5_fit wsX5_fit) := goodIn_app (goodIn_of _ (by decide +kernel)) ggL_law_X5_fit
set_option maxRecDepth 20000 in
theorem ggL_law_X6_fit : GoodIn wsL_law wsX6_fit := goodIn_r _ [602, 118, 102, 89, 90, 119, 120, 5, 121, 287, 288, 289, 290, 81, 705, 706, 707, 708, 709, 710, 711, 712, 713, 714, 715, 716, 717, 718, 719, 720, 721, 722, 723, 724, 725, 726, 727, 728, 729, 730] (by decide +kernel) (by decide +kernel)
set_option maxRecDepth 20000 in
theorem gL_law_X6_fit : GoodIn wsL_law (wsV RL 103 RX6 yX6_fit wsX6_fit) := goodIn_app (goodIn_of _ (by decide +kernel)) ggL_law_X6_fit
set_option maxRecDepth 20000 in
theorem ggL_law_X5_lost : GoodIn wsL_law wsX5_lost := goodIn_r _ [606, 25, 24, 196, 382, 383, 2, 384, 607, 326, 327, 23, 328, 329, 330, 331, 332, 333, 385, 386, 387, 388, 15, 192, 197, 264, 265, 266, 14, 267, 268, 255, 269, 270, 252, 253, 254, 256, 257, 258, 259, 50, 43, 271, 272, 273, 274, 45, 389, 390, 391, 392, 245, 246, 393, 394, 395, 396, 397, 398, 399, 400, 401, 402, 403, 251, 695, 696, 697, 698, 699, 700, 701, 702, 703, 704, 745, 746, 747, 748, 749, 731, 732, 733, 734, 735, 736, 737, 738, 739] (by decide +kernel) (by decide +kernel)
set_option maxRecDepth 20000 in
theorem gL_law_X5_lost : GoodIn wsL_law (wsV RL 104 RX5 yX5_lost wsX5_lost) := goodIn_app (goodIn_of _ (by decide +kernel)) ggL_law_X5_lost
set_option maxRecDepth 20000 in
theorem ggL_law_X6_lost : GoodIn wsL_law wsX6_lost := goodIn_r _ [611, 118, 85, 119, 120, 5, 121, 515, 516, 517, 518, 84, 408, 409, 410, 411, 412, 413, 414, 415, 416, 417, 418, 419, 83, 291, 292, 293, 294, 80, 283, 284, 285, 286, 287, 288, 289, 290, 81, 420, 421, 422, 423, 705, 706, 707, 708, 709, 710, 711, 712, 713, 714, 715, 716, 717, 718, 719, 720, 721, 722, 723, 724, 725, 726, 727, 728, 729, 730] (by decide +kernel) (by decide +kernel)
set_option maxRecDepth 20000 in
theorem gL_law_X6_lost : GoodIn wsL_law (wsV RL 107 RX6 yX6_lost wsX6_lost) := goodIn_app (goodIn_of _ (by decide +kernel)) ggL_law_X6_lost
set_option maxRecDepth 20000 in
theorem ggL_law_X5_draw : GoodIn wsL_law wsX5_draw := goodIn_r _ [615, 15, 239, 24, 197, 240, 241, 242, 14, 243, 50, 356, 357, 2, 358, 260, 261, 262, 263, 192, 264, 265, 266, 267, 268, 255, 269, 270, 252, 253, 254, 256, 257, 258, 259, 43, 271, 272, 273, 274, 45, 244, 245, 246, 389, 390, 391, 392, 444, 445, 446, 447, 448, 449, 164, 450, 451, 393, 394, 395, 396, 397, 398, 399, 695, 696, 697, 698, 699, 700, 701, 702, 703, 704, 731, 732, 733, 734, 735, 736, 737, 738, 739, 745, 746, 747, 748, 749] (by decide +kernel) (by decide +kernel)
set_option maxRecDepth 20000 in
theorem gL_law_X5_draw : GoodIn wsL_law (wsV RL 108 RX5 yX5_draw wsX5_draw) := goodIn_app (goodIn_of _ (by decide +kernel)) ggL_law_X5_draw
set_option maxRecDepth 20000 in
theorem ggL_law_X6_draw : GoodIn wsL_law wsX6_draw := goodIn_r _ [619, 118, 84, 279, 280, 281, 5, 282, 80, 119, 120, 121, 412, 413, 414, 415, 416, 417, 418, 419, 83, 291, 292, 293, 294, 283, 284, 285, 286, 287, 288, 289, 290, 81, 420, 421, 422, 423, 705, 706, 707, 708, 709, 710, 711, 712, 713, 714, 715, 716, 717, 718, 719, 720, 721, 722, 723, 724, 725, 726, 727, 728, 729, 730] (by decide +kernel) (by decide +kernel)
set_option maxRecDepth 20000 in
theorem gL_law_X6_draw : GoodIn wsL_law (wsV RL 111 RX6 yX6_draw wsX6_draw) := goodIn_app (goodIn_of _ (by decide +kernel)) ggL_law_X6_draw
set_option maxRecDepth 20000 in
theorem ggL_law_X5_rate : GoodIn wsL_law wsX5_rate := goodIn_r _ [623, 15, 489, 240, 241, 242, 14, 243, 50, 624, 625, 626, 2, 627, 37, 628, 239, 629, 630, 631, 632, 238, 633, 634, 635, 636, 637, 237, 334, 335, 336, 337, 338, 339, 340, 638, 639, 640, 641, 642, 643, 644, 645, 646, 647, 648, 649, 650, 651, 652, 24, 197, 695, 696, 697, 698, 699, 700, 701, 702, 703, 704, 731, 732, 733, 734, 735, 736, 737, 738, 739, 745, 746, 747, 748, 749] (by decide +kernel) (by decide +kernel)
set_option maxRecDepth 20000 in
theorem gL_law_X5_rate : GoodIn wsL_law (wsV RL 112 RX5 yX5_rate wsX5_rate) := goodIn_app (goodIn_of _ (by decide +kernel)) ggL_law_X5_rate
set_option maxRecDepth 20000 in
theorem ggL_law_X6_rate : GoodIn wsL_law wsX6_rate := goodIn_r _ [656, 118, 497, 82, 83, 81, 657, 658, 659, 660, 661, 662, 84, 119, 120, 5, 121, 279, 280, 281, 282, 80, 349, 350, 351, 705, 706, 707, 708, 709, 710, 711, 712, 713, 714, 715, 716, 717, 718, 719, 720, 721, 722, 723, 724, 725, 726, 727, 728, 729, 730] (by decide +kernel) (by decide +kernel)
set_option maxRecDepth 20000 in
theorem gL_law_X6_rate : GoodIn wsL_law (wsV RL 115 RX6 yX6_rate wsX6_rate) := goodIn_app (goodIn_of _ (by decide +kernel)) ggL_law_X6_rate
set_option maxRecDepth 20000 in
theorem ggL_law_X5_keep : GoodIn wsL_law wsX5_keep := goodIn_r _ [666, 30, 24, 32, 197, 607, 326, 327, 23, 328, 329, 330, 331, 332, 333, 695, 696, 697, 698, 699, 700, 701, 702, 703, 704, 745, 746, 747, 748, 749] (by decide +kernel) (by decide +kernel)
set_option maxRecDepth 20000 in
theorem gL_law_X5_keep : GoodIn wsL_law (wsV RL 116 RX5 yX5_keep wsX5_keep) := goodIn_app (goodIn_of _ (by decide +kernel)) ggL_law_X5_keep
set_option maxRecDepth 20000 in
theorem ggL_law_X6_keep : GoodIn wsL_law wsX6_keep := goodIn_r _ [670, 118, 86, 84, 87, 119, 120, 5, 121, 705, 706, 707, 708, 709, 710, 711, 712, 713, 714, 715, 716, 717, 718, 719, 720, 721, 722, 723, 724, 725, 726, 727, 728, 729, 730] (by decide +kernel) (by decide +kernel)
set_option maxRecDepth 20000 in
theorem gL_law_X6_keep : GoodIn wsL_law (wsV RL 119 RX6 yX6_keep wsX6_keep) := goodIn_app (goodIn_of _ (by decide +kernel)) ggL_law_X6_keep
set_option maxRecDepth 20000 in
theorem ggL_law_X5_back : GoodIn wsL_law wsX5_back := goodIn_r _ [674, 32, 24, 30, 29, 198, 197, 607, 326, 327, 23, 328, 329, 330, 331, 332, 333, 695, 696, 697, 698, 699, 700, 701, 702, 703, 704, 750, 751, 752, 745, 746, 747, 748, 749] (by decide +kernel) (by decide +kernel)
set_option maxRecDepth 20000 in
theorem gL_law_X5_back : GoodIn wsL_law (wsV RL 120 RX5 yX5_back wsX5_back) := goodIn_app (goodIn_of _ (by decide +kernel)) ggL_law_X5_back
set_option maxRecDepth 20000 in
theorem ggL_law_X6_back : GoodIn wsL_law wsX6_back := goodIn_r _ [678, 118, 87, 84, 86, 103, 119, 120, 5, 121, 705, 706, 707, 708, 709, 710, 711, 712, 713, 714, 715, 716, 717, 718, 719, 720, 721, 722, 723, 724, 725, 726, 727, 728, 729, 730] (by decide +kernel) (by decide +kernel)
set_option maxRecDepth 20000 in
theorem gL_law_X6_back : GoodIn wsL_law (wsV RL 123 RX6 yX6_back wsX6_back) := goodIn_app (goodIn_of _ (by decide +kernel)) ggL_law_X6_back
set_option maxRecDepth 20000 in
theorem ggL_law_X5_count : GoodIn wsL_law wsX5_count := goodIn_r _ [682, 15, 502, 492, 490, 491, 36, 199, 20, 108, 695, 696, 697, 698, 699, 700, 701, 702, 703, 704, 731, 732, 733, 734, 735, 736, 737, 738, 739, 753, 754, 755, 740, 741, 742, 743, 744] (by decide +kernel) (by decide +kernel)
set_option maxRecDepth 20000 in
theorem gL_law_X5_count : GoodIn wsL_law (wsV RL 124 RX5 yX5_count wsX5_count) := goodIn_app (goodIn_of _ (by decide +kernel)) ggL_law_X5_count
set_option maxRecDepth 20000 in
theorem ggL_law_X6_count : GoodIn wsL_law wsX6_count := goodIn_r _ [686, 118, 80, 102, 101, 119, 120, 5, 121, 705, 706, 707, 708, 709, 710, 711, 712, 713, 714, 715, 716, 717, 718, 719, 720, 721, 722, 723, 724, 725, 726, 727, 728, 729, 730] (by decide +kernel) (by decide +kernel)
set_option maxRecDepth 20000 in
theorem gL_law_X6_count : GoodIn wsL_law (wsV RL 127 RX6 yX6_count wsX6_count) := goodIn_app (goodIn_of _ (by decide +kernel)) ggL_law_X6_count
set_option maxRecDepth 20000 in
theorem ggL_law_X5_trace : GoodIn wsL_law wsX5_trace := goodIn_r _ [690, 37, 695, 696, 697, 698, 699, 700, 701, 702, 703, 704] (by decide +kernel) (by decide +kernel)
set_option maxRecDepth 20000 in
theorem gL_law_X5_trace : GoodIn wsL_law (wsV RL 128 RX5 yX5_trace wsX5_trace) := goodIn_app (goodIn_of _ (by decide +kernel)) ggL_law_X5_trace
set_option maxRecDepth 20000 in
theorem ggL_law_X6_trace : GoodIn wsL_law wsX6_trace := goodIn_r _ [694, 118, 657, 705, 706, 707, 708, 709, 710, 711, 712, 713, 714, 715, 716, 717, 718, 719, 720, 721, 722, 723, 724, 725, 726, 727, 728, 729, 730] (by decide +kernel) (by decide +kernel)
set_option maxRecDepth 20000 in
theorem gL_law_X6_trace : GoodIn wsL_law (wsV RL 132 RX6 yX6_trace wsX6_trace) := goodIn_app (goodIn_of _ (by decide +kernel)) ggL_law_X6_trace
