set_option maxRecDepth 20000 in
theorem ggL_law_X7_init : GoodIn wsL_law wsX7_init := goodIn_r _ [8, 9, 10, 11, 12, 13, 14, 15, 16, 17, 18, 19, 20, 21, 22, 23, 24, 25, 26, 27, 28, 29, 30, 31, 32, 33, 34, 35, 36, 37, 38, 39, 40, 41, 42, 43, 44, 45, 46, 47, 48, 49, 50, 51, 52, 53, 54, 55, 56, 57, 58, 59, 60, 61, 62, 63, 64, 65, 66, 67, 68, 69, 70, 71, 72, 73, 74, 75, 76, 77, 78, 79, 80, 81, 82, 83, 84, 85, 86, 87, 88, 722, 723, 724, 682, 683, 684, 685, 686, 687, 688, 689, 690, 691, 725, 726, 727, 728, 729, 730, 731, 732, 733, 734, 735, 736, 737, 738, 739, 740, 741, 742, 743, 744, 745, 746, 747, 748, 749, 750, 751, 752, 753, 754, 755, 756, 757, 758, 759, 760, 761, 762] (by decide +kernel) (by decide +kernel)
set_option maxRecDepth 20000 in
theorem gL_law_X7_init : GoodIn wsL_law (wsX7_init) := ggL_law_X7_init
set_option maxRecDepth 20000 in
theorem ggL_law_X8_init : GoodIn wsL_law wsX8_init := goodIn_r _ [91, 92, 10, 11, 93, 94, 95, 96, 97, 43, 98, 99, 100, 101, 102, 103, 104, 105, 106, 107, 108, 109, 110, 5, 111, 112, 113, 114, 115, 116, 117, 118, 119, 120, 121, 122, 123, 124, 125, 126, 127, 128, 129, 692, 693, 694, 695, 696, 697, 698, 699, 700, 701, 702, 703, 704, 705, 706, 707, 708, 709, 710, 711, 712, 713, 714, 715, 716, 717, 718, 719, 720, 721] (by decide +kernel) (by decide +kernel)
set_option maxRecDepth 20000 in
theorem gL_law_X8_init : GoodIn wsL_law (wsX8_init) := ggL_law_X8_init
set_option maxRecDepth 20000 in
theorem ggL_law_X7_begin : GoodIn wsL_law wsX7_begin := goodIn_r _ [133, 15, 16, 17, 21, 25, 134, 135, 136, 137, 138, 14, 139, 140, 141, 142, 143, 20, 144, 145, 146, 147, 148, 149, 24, 150, 151, 152, 153, 154, 155, 156, 157, 158, 64, 59, 159, 160, 161, 162, 163, 164, 165, 166, 55, 682, 683, 684, 685, 686, 687, 688, 689, 690, 691, 722, 723, 724, 725, 726, 727, 728, 729, 730, 731, 732, 733, 734, 735, 736, 737, 738, 739, 740, 741, 742, 743, 744] (by decide +kernel) (by decide +kernel)
set_option maxRecDepth 20000 in
theorem gL_law_X7_begin : GoodIn wsL_law (wsV RL 13 RX7 yX7_begin wsX7_begin) := goodIn_app (goodIn_of _ (by decide +kernel)) ggL_law_X7_begin
set_option maxRecDepth 20000 in
theorem ggL_law_X8_begin : GoodIn wsL_law wsX8_begin := goodIn_r _ [111, 97, 112, 113, 114, 115, 116, 117, 118, 5, 119, 120, 121, 122, 123, 124, 125, 126, 127, 128, 129, 692, 693, 694, 695, 696, 697, 698, 699, 700, 701, 702, 703, 704, 705, 706, 707, 708, 709, 710, 711, 712, 713, 714, 715, 716, 717, 718, 719, 720, 721] (by decide +kernel) (by decide +kernel)
set_option maxRecDepth 20000 in
theorem gL_law_X8_begin : GoodIn wsL_law (wsV RL 17 RX8 yX8_begin wsX8_begin) := goodIn_app (goodIn_of _ (by decide +kernel)) ggL_law_X8_begin
set_option maxRecDepth 20000 in
theorem ggL_law_X7_feed : GoodIn wsL_law wsX7_feed := goodIn_r _ [171, 15, 172, 173, 174, 14, 175, 140, 42, 44, 176, 2, 177, 178, 179, 180, 181, 182, 183, 184, 185, 67, 186, 187, 188, 189, 190, 191, 192, 43, 193, 194, 195, 196, 197, 682, 683, 684, 685, 686, 687, 688, 689, 690, 691, 722, 723, 724] (by decide +kernel) (by decide +kernel)
set_option maxRecDepth 20000 in
theorem gL_law_X7_feed : GoodIn wsL_law (wsV RL 18 RX7 yX7_feed wsX7_feed) := goodIn_app (goodIn_of _ (by decide +kernel)) ggL_law_X7_feed
set_option maxRecDepth 20000 in
theorem ggL_law_X8_feed : GoodIn wsL_law wsX8_feed := goodIn_r _ [201, 112, 94, 692, 693, 694, 695, 696, 697, 698, 699, 700, 701, 702, 703, 704, 705, 706, 707, 708, 709, 710, 711, 712, 713, 714, 715, 716, 717, 718, 719, 720, 721] (by decide +kernel) (by decide +kernel)
set_option maxRecDepth 20000 in
theorem gL_law_X8_feed : GoodIn wsL_law (wsV RL 21 RX8 yX8_feed wsX8_feed) := goodIn_app (goodIn_of _ (by decide +kernel)) ggL_law_X8_feed
set_option maxRecDepth 20000 in
theorem ggL_law_X7_cut : GoodIn wsL_law wsX7_cut := goodIn_r _ [205, 15, 206, 207, 208, 14, 209, 140, 682, 683, 684, 685, 686, 687, 688, 689, 690, 691, 722, 723, 724] (by decide +kernel) (by decide +kernel)
set_option maxRecDepth 20000 in
theorem gL_law_X7_cut : GoodIn wsL_law (wsV RL 22 RX7 yX7_cut wsX7_cut) := goodIn_app (goodIn_of _ (by decide +kernel)) ggL_law_X7_cut
set_option maxRecDepth 20000 in
theorem ggL_law_X8_cut : GoodIn wsL_law wsX8_cut := goodIn_r _ [213, 112, 692, 693, 694, 695, 696, 697, 698, 699, 700, 701, 702, 703, 704, 705, 706, 707, 708, 709, 710, 711, 712, 713, 714, 715, 716, 717, 718, 719, 720, 721] (by decide +kernel) (by decide +kernel)
set_option maxRecDepth 20000 in
theorem gL_law_X8_cut : GoodIn wsL_law (wsV RL 25 RX8 yX8_cut wsX8_cut) := goodIn_app (goodIn_of _ (by decide +kernel)) ggL_law_X8_cut
set_option maxRecDepth 20000 in
theorem ggL_law_X7_encode : GoodIn wsL_law wsX7_encode := goodIn_r _ [217, 21, 25, 33, 15, 29, 16, 141, 142, 143, 20, 144, 145, 146, 147, 148, 149, 24, 150, 151, 152, 153, 154, 155, 156, 157, 158, 64, 59, 159, 160, 161, 162, 218, 219, 220, 32, 221, 80, 222, 223, 224, 225, 226, 82, 227, 228, 229, 230, 231, 137, 138, 14, 139, 140, 232, 233, 234, 235, 236, 237, 238, 239, 44, 240, 241, 242, 28, 243, 244, 245, 73, 246, 247, 248, 249, 250, 251, 252, 253, 254, 255, 256, 257, 258, 2, 259, 260, 176, 177, 261, 262, 263, 264, 63, 265, 266, 267, 268, 269, 270, 271, 272, 273, 76, 274, 275, 276, 277, 60, 278, 279, 280, 281, 62, 282, 283, 284, 285, 56, 286, 287, 288, 289, 290, 291, 292, 293, 75, 294, 295, 296, 297, 57, 298, 299, 300, 301, 58, 302, 303, 304, 305, 74, 306, 307, 308, 309, 310, 311, 312, 313, 36, 314, 315, 316, 317, 182, 318, 319, 320, 321, 322, 323, 324, 325, 326, 327, 328, 329, 330, 331, 332, 333, 334, 335, 336, 337, 338, 339, 340, 341, 342, 343, 344, 345, 346, 347, 348, 349, 350, 351, 352, 353, 354, 355, 356, 357, 358, 359, 360, 361, 362, 363, 88, 364, 365, 366, 367, 368, 369, 173, 174, 175, 42, 178, 179, 180, 181, 183, 184, 185, 67, 186, 187, 188, 189, 190, 191, 192, 43, 193, 194, 195, 196, 197, 370, 371, 372, 373, 374, 50, 375, 376, 377, 378, 379, 380, 381, 49, 382, 383, 384, 385, 386, 387, 388, 389, 390, 391, 392, 393, 394, 395, 396, 397, 398, 399, 400, 401, 402, 403, 404, 405, 406, 407, 408, 409, 410, 411, 412, 413, 414, 55, 415, 416, 417, 418, 419, 420, 421, 422, 423, 424, 425, 426, 427, 428, 429, 430, 431, 61, 432, 433, 434, 435, 436, 437, 438, 439, 440, 441, 442, 443, 444, 445, 446, 447, 448, 134, 135, 449, 450, 451, 452, 453, 454, 455, 456, 457, 458, 459, 460, 461, 462, 463, 464, 465, 466, 467, 468, 682, 683, 684, 685, 686, 687, 688, 689, 690, 691, 725, 726, 727, 728, 729, 730, 731, 732, 733, 734, 735, 736, 737, 738, 739, 740, 741, 742, 743, 744, 754, 755, 756, 757, 758, 759, 760, 761, 762, 722, 723, 724, 745, 746, 747, 748, 749, 750, 751, 752, 753] (by decide +kernel) (by decide +kernel)
set_option maxRecDepth 20000 in
theorem gL_law_X7_encode : GoodIn wsL_law (wsV RL 26 RX7 yX7_encode wsX7_encode) := goodIn_app (goodIn_of _ (by decide +kernel)) ggL_law_X7_encode
set_option maxRecDepth 20000 in
theorem ggL_law_X8_encode : GoodIn wsL_law wsX8_encode := goodIn_r _ [472, 473, 474, 113, 95, 112, 94, 475, 116, 117, 118, 5, 119, 120, 121, 122, 123, 124, 125, 126, 127, 128, 129, 115, 476, 477, 478, 479, 107, 98, 100, 101, 480, 481, 482, 483, 484, 485, 486, 487, 488, 489, 490, 105, 491, 492, 493, 494, 495, 496, 497, 498, 499, 102, 103, 104, 500, 501, 502, 503, 504, 505, 506, 507, 508, 509, 510, 511, 512, 513, 514, 515, 516, 517, 518, 519, 97, 520, 521, 522, 523, 524, 525, 526, 527, 528, 529, 530, 531, 692, 693, 694, 695, 696, 697, 698, 699, 700, 701, 702, 703, 704, 705, 706, 707, 708, 709, 710, 711, 712, 713, 714, 715, 716, 717, 718, 719, 720, 721] (by decide +kernel) (by decide +kernel)
set_option maxRecDepth 20000 in
theorem gL_law_X8_encode : GoodIn wsL_law (wsV RL 30 RX8 yX8_encode wsX8_encode) := goodIn_app (goodIn_of _ (by decide +kernel)) ggL_law_X8_encode
set_option maxRecDepth 20000 in
theorem ggL_law_X7_decode : GoodIn wsL_law wsX7_decode := goodIn_r _ [535, 21, 25, 37, 17, 16, 141, 142, 143, 20, 144, 145, 146, 147, 148, 149, 24, 150, 151, 152, 153, 154, 155, 156, 157, 158, 64, 59, 159, 160, 161, 162, 536, 537, 538, 36, 539, 315, 363, 540, 541, 542, 226, 82, 227, 228, 229, 230, 543, 360, 544, 361, 362, 88, 364, 233, 234, 14, 235, 140, 365, 237, 238, 239, 44, 136, 137, 138, 139, 545, 546, 547, 2, 548, 29, 240, 241, 242, 28, 243, 244, 245, 73, 246, 247, 248, 249, 250, 251, 252, 253, 254, 255, 256, 257, 258, 259, 260, 176, 177, 261, 262, 263, 264, 63, 265, 266, 267, 268, 269, 270, 271, 272, 273, 76, 274, 275, 276, 277, 60, 278, 279, 280, 281, 62, 282, 283, 284, 285, 56, 286, 287, 288, 289, 290, 291, 292, 293, 75, 294, 295, 296, 297, 57, 298, 299, 300, 301, 58, 302, 303, 304, 305, 74, 306, 307, 308, 309, 310, 311, 312, 313, 314, 316, 317, 182, 318, 319, 320, 321, 322, 323, 324, 325, 32, 326, 327, 328, 329, 330, 331, 332, 333, 334, 335, 336, 337, 338, 339, 340, 341, 342, 343, 344, 345, 222, 346, 347, 348, 349, 350, 80, 351, 352, 353, 354, 355, 356, 357, 358, 359, 366, 367, 368, 369, 173, 174, 175, 42, 178, 179, 180, 181, 183, 184, 185, 67, 186, 187, 188, 189, 190, 191, 192, 43, 193, 194, 195, 196, 197, 370, 371, 372, 373, 374, 50, 375, 376, 377, 378, 379, 380, 381, 49, 382, 383, 384, 385, 386, 387, 388, 389, 390, 391, 392, 393, 394, 395, 396, 397, 172, 398, 399, 400, 401, 402, 403, 404, 405, 406, 407, 408, 409, 410, 411, 412, 413, 414, 55, 415, 416, 417, 418, 419, 420, 421, 422, 423, 424, 425, 426, 427, 428, 429, 430, 431, 61, 432, 433, 434, 435, 436, 437, 438, 439, 440, 441, 442, 443, 444, 445, 446, 447, 448, 134, 135, 449, 450, 451, 452, 453, 454, 455, 456, 457, 458, 459, 460, 232, 549, 550, 551, 682, 683, 684, 685, 686, 687, 688, 689, 690, 691, 725, 726, 727, 728, 729, 730, 731, 732, 733, 734, 735, 736, 737, 738, 739, 740, 741, 742, 743, 744, 758, 759, 760, 761, 762, 754, 755, 756, 757, 722, 723, 724, 745, 746, 747, 748, 749, 750, 751, 752, 753] (by decide +kernel) (by decide +kernel)
set_option maxRecDepth 20000 in
theorem gL_law_X7_decode : GoodIn wsL_law (wsV RL 31 RX7 yX7_decode wsX7_decode) := goodIn_app (goodIn_of _ (by decide +kernel)) ggL_law_X7_decode
set_option maxRecDepth 20000 in
theorem ggL_law_X8_decode : GoodIn wsL_law wsX8_decode := goodIn_r _ [555, 473, 114, 515, 495, 505, 96, 475, 113, 123, 116, 117, 118, 5, 119, 120, 121, 122, 124, 125, 126, 127, 128, 129, 115, 511, 512, 513, 514, 95, 476, 477, 478, 479, 107, 98, 100, 101, 480, 481, 482, 483, 484, 485, 486, 487, 488, 489, 490, 105, 491, 492, 493, 494, 496, 497, 498, 499, 102, 103, 104, 500, 501, 502, 503, 504, 506, 474, 507, 508, 509, 510, 516, 517, 518, 519, 97, 520, 521, 522, 523, 524, 525, 526, 527, 528, 529, 530, 531, 692, 693, 694, 695, 696, 697, 698, 699, 700, 701, 702, 703, 704, 705, 706, 707, 708, 709, 710, 711, 712, 713, 714, 715, 716, 717, 718, 719, 720, 721] (by decide +kernel) (by decide +kernel)
set_option maxRecDepth 20000 in
theorem gL_law_X8_decode : GoodIn wsL_law (wsV RL 34 RX8 yX8_decode wsX8_decode) := goodIn_app (goodIn_of _ (by decide +kernel)) ggL_law_X8_decode
set_option maxRecDepth 20000 in
theorem ggL_law_X7_push : GoodIn wsL_law wsX7_push := goodIn_r _ [559, 16, 172, 173, 174, 14, 175, 140, 42, 44, 176, 2, 177, 178, 179, 180, 181, 182, 183, 184, 185, 67, 186, 187, 188, 189, 190, 191, 192, 43, 193, 194, 195, 196, 197, 682, 683, 684, 685, 686, 687, 688, 689, 690, 691, 722, 723, 724] (by decide +kernel) (by decide +kernel)
set_option maxRecDepth 20000 in
theorem gL_law_X7_push : GoodIn wsL_law (wsV RL 35 RX7 yX7_push wsX7_push) := goodIn_app (goodIn_of _ (by decide +kernel)) ggL_law_X7_push
set_option maxRecDepth 20000 in
theorem ggL_law_X8_push : GoodIn wsL_law wsX8_push := goodIn_r _ [563, 113, 95, 692, 693, 694, 695, 696, 697, 698, 699, 700, 701, 702, 703, 704, 705, 706, 707, 708, 709, 710, 711, 712, 713, 714, 715, 716, 717, 718, 719, 720, 721] (by decide +kernel) (by decide +kernel)
set_option maxRecDepth 20000 in
theorem gL_law_X8_push : GoodIn wsL_law (wsV RL 38 RX8 yX8_push wsX8_push) := goodIn_app (goodIn_of _ (by decide +kernel)) ggL_law_X8_push
set_option maxRecDepth 20000 in
theorem ggL_law_X7_change : GoodIn wsL_law wsX7_change := goodIn_r _ [567, 16, 568, 354, 355, 14, 356, 140, 44, 176, 2, 177, 682, 683, 684, 685, 686, 687, 688, 689, 690, 691, 722, 723, 724] (by decide +kernel) (by decide +kernel)
set_option maxRecDepth 20000 in
theorem gL_law_X7_change : GoodIn wsL_law (wsV RL 39 RX7 yX7_change wsX7_change) := goodIn_app (goodIn_of _ (by decide +kernel)) ggL_law_X7_change
set_option maxRecDepth 20000 in
theorem ggL_law_X8_change : GoodIn wsL_law wsX8_change := goodIn_r _ [572, 113, 95, 692, 693, 694, 695, 696, 697, 698, 699, 700, 701, 702, 703, 704, 705, 706, 707, 708, 709, 710, 711, 712, 713, 714, 715, 716, 717, 718, 719, 720, 721] (by decide +kernel) (by decide +kernel)
set_option maxRecDepth 20000 in
theorem gL_law_X8_change : GoodIn wsL_law (wsV RL 43 RX8 yX8_change wsX8_change) := goodIn_app (goodIn_of _ (by decide +kernel)) ggL_law_X8_change
set_option maxRecDepth 20000 in
theorem ggL_law_X7_keep : GoodIn wsL_law wsX7_keep := goodIn_r _ [576, 16, 206, 207, 208, 14, 209, 140, 682, 683, 684, 685, 686, 687, 688, 689, 690, 691, 722, 723, 724] (by decide +kernel) (by decide +kernel)
set_option maxRecDepth 20000 in
theorem gL_law_X7_keep : GoodIn wsL_law (wsV RL 44 RX7 yX7_keep wsX7_keep) := goodIn_app (goodIn_of _ (by decide +kernel)) ggL_law_X7_keep
set_option maxRecDepth 20000 in
theorem ggL_law_X8_keep : GoodIn wsL_law wsX8_keep := goodIn_r _ [580, 113, 692, 693, 694, 695, 696, 697, 698, 699, 700, 701, 702, 703, 704, 705, 706, 707, 708, 709, 710, 711, 712, 713, 714, 715, 716, 717, 718, 719, 720, 721] (by decide +kernel) (by decide +kernel)
set_option maxRecDepth 20000 in
theorem gL_law_X8_keep : GoodIn wsL_law (wsV RL 47 RX8 yX8_keep wsX8_keep) := goodIn_app (goodIn_of _ (by decide +kernel)) ggL_law_X8_keep
set_option maxRecDepth 20000 in
theorem ggL_law_X7_at : GoodIn wsL_law wsX7_at := goodIn_r _ [584, 585, 586, 587, 2, 588, 15, 16, 17, 236, 237, 238, 14, 239, 140, 44, 682, 683, 684, 685, 686, 687, 688, 689, 690, 691, 722, 723, 724] (by decide +kernel) (by decide +kernel)
set_option maxRecDepth 20000 in
theorem gL_law_X7_at : GoodIn wsL_law (wsV RL 48 RX7 yX7_at wsX7_at) := goodIn_app (goodIn_of _ (by decide +kernel)) ggL_law_X7_at
set_option maxRecDepth 20000 in
theorem ggL_law_X8_at : GoodIn wsL_law wsX8_at := goodIn_r _ [592, 94, 95, 96, 593, 594, 595, 5, 596, 112, 113, 114, 692, 693, 694, 695, 696, 697, 698, 699, 700, 701, 702, 703, 704, 705, 706, 707, 708, 709, 710, 711, 712, 713, 714, 715, 716, 717, 718, 719, 720, 721] (by decide +kernel) (by decide +kernel)
set_option maxRecDepth 20000 in
theorem gL_law_X8_at : GoodIn wsL_law (wsV RL 52 RX8 yX8_at wsX8_at) := goodIn_app (goodIn_of _ (by decide +kernel)) ggL_law_X8_at
set_option maxRecDepth 20000 in
theorem ggL_law_X7_size : GoodIn wsL_law wsX7_size := goodIn_r _ [600, 585, 586, 587, 2, 588, 15, 16, 17, 232, 233, 234, 14, 235, 140, 682, 683, 684, 685, 686, 687, 688, 689, 690, 691, 722, 723, 724] (by decide +kernel) (by decide +kernel)
set_option maxRecDepth 20000 in
theorem gL_law_X7_size : GoodIn wsL_law (wsV RL 53 RX7 yX7_size wsX7_size) := goodIn_app (goodIn_of _ (by decide +kernel)) ggL_law_X7_size
set_option maxRecDepth 20000 in
theorem ggL_law_X8_size : GoodIn wsL_law wsX8_size := goodIn_r _ [596, 112, 113, 114, 692, 693, 694, 695, 696, 697, 698, 699, 700, 701, 702, 703, 704, 705, 706, 707, 708, 709, 710, 711, 712, 713, 714, 715, 716, 717, 718, 719, 720, 721] (by decide +kernel) (by decide +kernel)
set_option maxRecDepth 20000 in
theorem gL_law_X8_size : GoodIn wsL_law (wsV RL 57 RX8 yX8_size wsX8_size) := goodIn_app (goodIn_of _ (by decide +kernel)) ggL_law_X8_size
set_option maxRecDepth 20000 in
theorem ggL_law_X7_step : GoodIn wsL_law wsX7_step := goodIn_r _ [605, 21, 606, 607, 608, 20, 609, 145, 50, 610, 611, 682, 683, 684, 685, 686, 687, 688, 689, 690, 691, 725, 726, 727] (by decide +kernel) (by decide +kernel)
set_option maxRecDepth 20000 in
theorem gL_law_X7_step : GoodIn wsL_law (wsV RL 58 RX7 yX7_step wsX7_step) := goodIn_app (goodIn_of _ (by decide +kernel)) ggL_law_X7_step
set_option maxRecDepth 20000 in
theorem ggL_law_X8_step : GoodIn wsL_law wsX8_step := goodIn_r _ [615, 121, 105, 102, 616, 103, 104, 692, 693, 694, 695, 696, 697, 698, 699, 700, 701, 702, 703, 704, 705, 706, 707, 708, 709, 710, 711, 712, 713, 714, 715, 716, 717, 718, 719, 720, 721] (by decide +kernel) (by decide +kernel)
set_option maxRecDepth 20000 in
theorem gL_law_X8_step : GoodIn wsL_law (wsV RL 61 RX8 yX8_step wsX8_step) := goodIn_app (goodIn_of _ (by decide +kernel)) ggL_law_X8_step
set_option maxRecDepth 20000 in
theorem ggL_law_X7_count : GoodIn wsL_law wsX7_count := goodIn_r _ [620, 21, 134, 25, 135, 621, 622, 623, 624, 20, 625, 145, 626, 627, 628, 629, 146, 630, 631, 632, 24, 633, 152, 634, 635, 636, 637, 153, 638, 639, 640, 641, 159, 642, 643, 644, 645, 158, 682, 683, 684, 685, 686, 687, 688, 689, 690, 691, 725, 726, 727, 728, 729, 730, 731, 732, 733, 734, 735, 736, 737, 738, 739, 740, 741, 742, 743, 744] (by decide +kernel) (by decide +kernel)
set_option maxRecDepth 20000 in
theorem gL_law_X7_count : GoodIn wsL_law (wsV RL 62 RX7 yX7_count wsX7_count) := goodIn_app (goodIn_of _ (by decide +kernel)) ggL_law_X7_count
set_option maxRecDepth 20000 in
theorem ggL_law_X8_count : GoodIn wsL_law wsX8_count := goodIn_r _ [649, 121, 122, 123, 124, 125, 120, 115, 98, 650, 692, 693, 694, 695, 696, 697, 698, 699, 700, 701, 702, 703, 704, 705, 706, 707, 708, 709, 710, 711, 712, 713, 714, 715, 716, 717, 718, 719, 720, 721] (by decide +kernel) (by decide +kernel)
set_option maxRecDepth 20000 in
theorem gL_law_X8_count : GoodIn wsL_law (wsV RL 66 RX8 yX8_count wsX8_count) := goodIn_app (goodIn_of _ (by decide +kernel)) ggL_law_X8_count
set_option maxRecDepth 20000 in
theorem ggL_law_X7_learnt : GoodIn wsL_law wsX7_learnt := goodIn_r _ [654, 25, 655, 258, 2, 259, 260, 176, 177, 656, 262, 263, 24, 264, 64, 158, 59, 63, 160, 161, 162, 265, 266, 267, 268, 657, 417, 418, 419, 420, 275, 276, 277, 60, 421, 279, 280, 281, 62, 422, 283, 284, 285, 56, 286, 287, 288, 289, 159, 423, 299, 300, 301, 58, 658, 295, 296, 297, 57, 682, 683, 684, 685, 686, 687, 688, 689, 690, 691, 728, 729, 730, 731, 732, 733, 734, 735, 736, 737, 738, 739, 740, 741, 742, 743, 744] (by decide +kernel) (by decide +kernel)
set_option maxRecDepth 20000 in
theorem gL_law_X7_learnt : GoodIn wsL_law (wsV RL 67 RX7 yX7_learnt wsX7_learnt) := goodIn_app (goodIn_of _ (by decide +kernel)) ggL_law_X7_learnt
set_option maxRecDepth 20000 in
theorem ggL_law_X8_learnt : GoodIn wsL_law wsX8_learnt := goodIn_r _ [662, 101, 663, 664, 5, 665, 666, 667, 668, 484, 485, 486, 520, 521, 522, 523, 120, 98, 100, 692, 693, 694, 695, 696, 697, 698, 699, 700, 701, 702, 703, 704, 705, 706, 707, 708, 709, 710, 711, 712, 713, 714, 715, 716, 717, 718, 719, 720, 721] (by decide +kernel) (by decide +kernel)
set_option maxRecDepth 20000 in
theorem gL_law_X8_learnt : GoodIn wsL_law (wsV RL 71 RX8 yX8_learnt wsX8_learnt) := goodIn_app (goodIn_of _ (by decide +kernel)) ggL_law_X8_learnt
set_option maxRecDepth 20000 in
theorem ggL_law_X7_node : GoodIn wsL_law wsX7_node := goodIn_r _ [672, 25, 655, 258, 2, 259, 260, 176, 177, 656, 262, 263, 24, 264, 64, 158, 59, 63, 160, 161, 162, 265, 266, 267, 268, 673, 674, 675, 676, 421, 279, 280, 281, 62, 420, 275, 276, 277, 60, 423, 299, 300, 301, 58, 286, 287, 288, 289, 159, 677, 283, 284, 285, 56, 682, 683, 684, 685, 686, 687, 688, 689, 690, 691, 728, 729, 730, 731, 732, 733, 734, 735, 736, 737, 738, 739, 740, 741, 742, 743, 744] (by decide +kernel) (by decide +kernel)
set_option maxRecDepth 20000 in
theorem gL_law_X7_node : GoodIn wsL_law (wsV RL 72 RX7 yX7_node wsX7_node) := goodIn_app (goodIn_of _ (by decide +kernel)) ggL_law_X7_node
set_option maxRecDepth 20000 in
theorem ggL_law_X8_node : GoodIn wsL_law wsX8_node := goodIn_r _ [681, 120, 98, 100, 663, 664, 5, 665, 666, 667, 668, 484, 485, 486, 692, 693, 694, 695, 696, 697, 698, 699, 700, 701, 702, 703, 704, 705, 706, 707, 708, 709, 710, 711, 712, 713, 714, 715, 716, 717, 718, 719, 720, 721] (by decide +kernel) (by decide +kernel)
set_option maxRecDepth 20000 in
theorem gL_law_X8_node : GoodIn wsL_law (wsV RL 75 RX8 yX8_node wsX8_node) := goodIn_app (goodIn_of _ (by decide +kernel)) ggL_law_X8_node
