set_option maxRecDepth 20000 in
theorem ggL_law_X7_told : GoodIn wsL_law wsX7_told := goodIn_r _ [354, 19, 295, 296, 300, 301, 302, 18, 303, 60, 191, 192, 2, 193, 710, 711, 712, 713, 714, 715, 716, 717, 718, 719, 758, 759, 760, 761] (by decide +kernel) (by decide +kernel)
set_option maxRecDepth 20000 in
theorem gL_law_X7_told : GoodIn wsL_law (wsV RL 53 RX7 yX7_told wsX7_told) := goodIn_app (goodIn_of _ (by decide +kernel)) ggL_law_X7_told
set_option maxRecDepth 20000 in
theorem ggL_law_X8_told : GoodIn wsL_law wsX8_told := goodIn_r _ [358, 109, 110, 313, 314, 315, 5, 316, 285, 143, 144, 145, 720, 721, 722, 723, 724, 725, 726, 727, 728, 729, 730, 731, 732, 733, 734, 735, 736, 737, 738, 739, 740, 741, 742, 743, 744, 745, 746, 747, 748, 749, 750, 751] (by decide +kernel) (by decide +kernel)
set_option maxRecDepth 20000 in
theorem gL_law_X8_told : GoodIn wsL_law (wsV RL 56 RX8 yX8_told wsX8_told) := goodIn_app (goodIn_of _ (by decide +kernel)) ggL_law_X8_told
set_option maxRecDepth 20000 in
theorem ggL_law_X7_taught : GoodIn wsL_law wsX7_taught := goodIn_r _ [362, 19, 189, 297, 300, 301, 302, 18, 303, 60, 191, 192, 2, 193, 710, 711, 712, 713, 714, 715, 716, 717, 718, 719, 758, 759, 760, 761] (by decide +kernel) (by decide +kernel)
set_option maxRecDepth 20000 in
theorem gL_law_X7_taught : GoodIn wsL_law (wsV RL 57 RX7 yX7_taught wsX7_taught) := goodIn_app (goodIn_of _ (by decide +kernel)) ggL_law_X7_taught
set_option maxRecDepth 20000 in
theorem ggL_law_X8_taught : GoodIn wsL_law wsX8_taught := goodIn_r _ [366, 214, 111, 215, 313, 314, 315, 5, 316, 285, 143, 144, 145, 720, 721, 722, 723, 724, 725, 726, 727, 728, 729, 730, 731, 732, 733, 734, 735, 736, 737, 738, 739, 740, 741, 742, 743, 744, 745, 746, 747, 748, 749, 750, 751] (by decide +kernel) (by decide +kernel)
set_option maxRecDepth 20000 in
theorem gL_law_X8_taught : GoodIn wsL_law (wsV RL 61 RX8 yX8_taught wsX8_taught) := goodIn_app (goodIn_of _ (by decide +kernel)) ggL_law_X8_taught
set_option maxRecDepth 20000 in
theorem ggL_law_X7_ends : GoodIn wsL_law wsX7_ends := goodIn_r _ [370, 371, 42, 43, 191, 192, 2, 193, 710, 711, 712, 713, 714, 715, 716, 717, 718, 719] (by decide +kernel) (by decide +kernel)
set_option maxRecDepth 20000 in
theorem gL_law_X7_ends : GoodIn wsL_law (wsV RL 62 RX7 yX7_ends wsX7_ends) := goodIn_app (goodIn_of _ (by decide +kernel)) ggL_law_X7_ends
set_option maxRecDepth 20000 in
theorem ggL_law_X8_ends : GoodIn wsL_law wsX8_ends := goodIn_r _ [375, 376, 117, 377, 143, 144, 5, 145, 720, 721, 722, 723, 724, 725, 726, 727, 728, 729, 730, 731, 732, 733, 734, 735, 736, 737, 738, 739, 740, 741, 742, 743, 744, 745, 746, 747, 748, 749, 750, 751] (by decide +kernel) (by decide +kernel)
set_option maxRecDepth 20000 in
theorem gL_law_X8_ends : GoodIn wsL_law (wsV RL 65 RX8 yX8_ends wsX8_ends) := goodIn_app (goodIn_of _ (by decide +kernel)) ggL_law_X8_ends
set_option maxRecDepth 20000 in
theorem ggL_law_X7_distance : GoodIn wsL_law wsX7_distance := goodIn_r _ [381, 19, 15, 27, 228, 300, 301, 302, 18, 303, 60, 229, 230, 231, 14, 232, 52, 233, 195, 196, 197, 198, 163, 164, 165, 53, 166, 167, 168, 169, 50, 47, 170, 171, 172, 173, 48, 199, 200, 201, 202, 51, 203, 204, 205, 206, 207, 208, 209, 234, 235, 236, 237, 238, 239, 240, 241, 242, 243, 244, 245, 246, 247, 382, 383, 384, 26, 385, 74, 386, 268, 269, 270, 387, 388, 389, 390, 391, 392, 393, 394, 395, 396, 397, 75, 76, 398, 399, 400, 401, 402, 403, 404, 405, 406, 407, 408, 409, 410, 411, 412, 413, 414, 415, 416, 417, 418, 710, 711, 712, 713, 714, 715, 716, 717, 718, 719, 752, 753, 754, 755, 756, 757, 758, 759, 760, 761, 769, 770, 771] (by decide +kernel) (by decide +kernel)
set_option maxRecDepth 20000 in
theorem gL_law_X7_distance : GoodIn wsL_law (wsV RL 66 RX7 yX7_distance wsX7_distance) := goodIn_app (goodIn_of _ (by decide +kernel)) ggL_law_X7_distance
set_option maxRecDepth 20000 in
theorem ggL_law_X8_distance : GoodIn wsL_law wsX8_distance := goodIn_r _ [422, 313, 314, 315, 5, 316, 285, 143, 144, 145, 216, 175, 176, 177, 142, 178, 179, 180, 181, 106, 104, 105, 182, 183, 184, 423, 424, 425, 426, 118, 108, 252, 253, 254, 255, 107, 256, 257, 217, 218, 219, 220, 141, 221, 222, 223, 427, 428, 429, 430, 110, 431, 432, 433, 434, 119, 435, 436, 437, 438, 111, 439, 440, 441, 442, 443, 444, 445, 446, 720, 721, 722, 723, 724, 725, 726, 727, 728, 729, 730, 731, 732, 733, 734, 735, 736, 737, 738, 739, 740, 741, 742, 743, 744, 745, 746, 747, 748, 749, 750, 751] (by decide +kernel) (by decide +kernel)
set_option maxRecDepth 20000 in
theorem gL_law_X8_distance : GoodIn wsL_law (wsV RL 69 RX8 yX8_distance wsX8_distance) := goodIn_app (goodIn_of _ (by decide +kernel)) ggL_law_X8_distance
set_option maxRecDepth 20000 in
theorem ggL_law_X7_nearest : GoodIn wsL_law wsX7_nearest := goodIn_r _ [450, 451, 452, 453, 2, 454, 15, 19, 262, 41, 27, 228, 229, 230, 231, 14, 232, 52, 233, 195, 196, 197, 198, 163, 164, 165, 53, 166, 167, 168, 169, 50, 47, 170, 171, 172, 173, 48, 199, 200, 201, 202, 51, 203, 204, 205, 206, 207, 208, 209, 234, 235, 236, 237, 238, 239, 240, 241, 242, 243, 244, 245, 246, 247, 382, 383, 384, 26, 385, 74, 386, 268, 269, 270, 387, 388, 389, 390, 391, 392, 393, 394, 395, 396, 397, 75, 76, 398, 399, 400, 401, 402, 403, 404, 405, 406, 407, 408, 409, 410, 411, 412, 413, 414, 415, 416, 417, 418, 710, 711, 712, 713, 714, 715, 716, 717, 718, 719, 758, 759, 760, 761, 752, 753, 754, 755, 756, 757, 769, 770, 771] (by decide +kernel) (by decide +kernel)
set_option maxRecDepth 20000 in
theorem gL_law_X7_nearest : GoodIn wsL_law (wsV RL 70 RX7 yX7_nearest wsX7_nearest) := goodIn_app (goodIn_of _ (by decide +kernel)) ggL_law_X7_nearest
set_option maxRecDepth 20000 in
theorem ggL_law_X8_nearest : GoodIn wsL_law wsX8_nearest := goodIn_r _ [458, 285, 216, 175, 176, 5, 177, 142, 178, 179, 180, 181, 106, 104, 105, 182, 183, 184, 423, 424, 425, 426, 118, 108, 252, 253, 254, 255, 107, 256, 257, 217, 218, 219, 220, 141, 221, 222, 223, 427, 428, 429, 430, 110, 431, 432, 433, 434, 119, 435, 436, 437, 438, 111, 439, 440, 441, 442, 443, 444, 445, 446, 720, 721, 722, 723, 724, 725, 726, 727, 728, 729, 730, 731, 732, 733, 734, 735, 736, 737, 738, 739, 740, 741, 742, 743, 744, 745, 746, 747, 748, 749, 750, 751] (by decide +kernel) (by decide +kernel)
set_option maxRecDepth 20000 in
theorem gL_law_X8_nearest : GoodIn wsL_law (wsV RL 73 RX8 yX8_nearest wsX8_nearest) := goodIn_app (goodIn_of _ (by decide +kernel)) ggL_law_X8_nearest
