set_option maxRecDepth 20000 in
theorem ggL_law_X7_read : GoodIn wsL_law wsX7_read := goodIn_r _ [462, 451, 452, 453, 2, 454, 15, 19, 262, 41, 27, 228, 229, 230, 231, 14, 232, 52, 233, 195, 196, 197, 198, 163, 164, 165, 53, 166, 167, 168, 169, 50, 47, 170, 171, 172, 173, 48, 199, 200, 201, 202, 51, 203, 204, 205, 206, 207, 208, 209, 234, 235, 236, 237, 238, 239, 240, 241, 242, 243, 244, 245, 246, 247, 382, 383, 384, 26, 385, 74, 386, 268, 269, 270, 387, 388, 389, 390, 391, 392, 393, 394, 395, 396, 397, 75, 76, 398, 399, 400, 401, 402, 403, 404, 405, 406, 407, 408, 409, 410, 411, 412, 413, 414, 415, 416, 417, 418, 463, 464, 465, 466, 295, 42, 43, 300, 301, 302, 18, 303, 60, 710, 711, 712, 713, 714, 715, 716, 717, 718, 719, 758, 759, 760, 761, 752, 753, 754, 755, 756, 757, 769, 770, 771] (by decide +kernel) (by decide +kernel)
set_option maxRecDepth 20000 in
theorem gL_law_X7_read : GoodIn wsL_law (wsV RL 74 RX7 yX7_read wsX7_read) := goodIn_app (goodIn_of _ (by decide +kernel)) ggL_law_X7_read
set_option maxRecDepth 20000 in
theorem ggL_law_X8_read : GoodIn wsL_law wsX8_read := goodIn_r _ [470, 117, 285, 109, 377, 471, 456, 457, 5, 458, 216, 175, 176, 177, 142, 178, 179, 180, 181, 106, 104, 105, 182, 183, 184, 423, 424, 425, 426, 118, 108, 252, 253, 254, 255, 107, 256, 257, 217, 218, 219, 220, 141, 221, 222, 223, 427, 428, 429, 430, 110, 431, 432, 433, 434, 119, 435, 436, 437, 438, 111, 439, 440, 441, 442, 443, 444, 445, 446, 720, 721, 722, 723, 724, 725, 726, 727, 728, 729, 730, 731, 732, 733, 734, 735, 736, 737, 738, 739, 740, 741, 742, 743, 744, 745, 746, 747, 748, 749, 750, 751] (by decide +kernel) (by decide +kernel)
set_option maxRecDepth 20000 in
theorem gL_law_X8_read : GoodIn wsL_law (wsV RL 77 RX8 yX8_read wsX8_read) := goodIn_app (goodIn_of _ (by decide +kernel)) ggL_law_X8_read
set_option maxRecDepth 20000 in
theorem ggL_law_X7_mark : GoodIn wsL_law wsX7_mark := goodIn_r _ [475, 35, 15, 451, 452, 453, 2, 454, 19, 262, 41, 27, 228, 229, 230, 231, 14, 232, 52, 233, 195, 196, 197, 198, 163, 164, 165, 53, 166, 167, 168, 169, 50, 47, 170, 171, 172, 173, 48, 199, 200, 201, 202, 51, 203, 204, 205, 206, 207, 208, 209, 234, 235, 236, 237, 238, 239, 240, 241, 242, 243, 244, 245, 246, 247, 382, 383, 384, 26, 385, 74, 386, 268, 269, 270, 387, 388, 389, 390, 391, 392, 393, 394, 395, 396, 397, 75, 76, 398, 399, 400, 401, 402, 403, 404, 405, 406, 407, 408, 409, 410, 411, 412, 413, 414, 415, 416, 417, 418, 463, 464, 465, 466, 295, 42, 43, 300, 301, 302, 18, 303, 60, 476, 477, 478, 34, 479, 91, 88, 150, 151, 152, 153, 710, 711, 712, 713, 714, 715, 716, 717, 718, 719, 758, 759, 760, 761, 752, 753, 754, 755, 756, 757, 769, 770, 771, 777, 778, 779, 780, 781] (by decide +kernel) (by decide +kernel)
set_option maxRecDepth 20000 in
theorem gL_law_X7_mark : GoodIn wsL_law (wsV RL 78 RX7 yX7_mark wsX7_mark) := goodIn_app (goodIn_of _ (by decide +kernel)) ggL_law_X7_mark
set_option maxRecDepth 20000 in
theorem ggL_law_X8_mark : GoodIn wsL_law wsX8_mark := goodIn_r _ [483, 484, 120, 142, 485, 468, 469, 5, 470, 117, 285, 109, 377, 471, 456, 457, 458, 216, 175, 176, 177, 178, 179, 180, 181, 106, 104, 105, 182, 183, 184, 423, 424, 425, 426, 118, 108, 252, 253, 254, 255, 107, 256, 257, 217, 218, 219, 220, 141, 221, 222, 223, 427, 428, 429, 430, 110, 431, 432, 433, 434, 119, 435, 436, 437, 438, 111, 439, 440, 441, 442, 443, 444, 445, 446, 720, 721, 722, 723, 724, 725, 726, 727, 728, 729, 730, 731, 732, 733, 734, 735, 736, 737, 738, 739, 740, 741, 742, 743, 744, 745, 746, 747, 748, 749, 750, 751] (by decide +kernel) (by decide +kernel)
set_option maxRecDepth 20000 in
theorem gL_law_X8_mark : GoodIn wsL_law (wsV RL 81 RX8 yX8_mark wsX8_mark) := goodIn_app (goodIn_of _ (by decide +kernel)) ggL_law_X8_mark
set_option maxRecDepth 20000 in
theorem ggL_law_X7_confused : GoodIn wsL_law wsX7_confused := goodIn_r _ [489, 371, 19, 262, 295, 191, 192, 2, 193, 490, 491, 492, 493, 27, 297, 382, 383, 384, 26, 385, 74, 386, 268, 269, 270, 387, 388, 389, 239, 172, 240, 390, 391, 392, 393, 394, 395, 396, 397, 75, 76, 398, 399, 400, 401, 402, 171, 173, 403, 404, 405, 406, 407, 408, 409, 410, 411, 412, 413, 414, 415, 416, 417, 418, 710, 711, 712, 713, 714, 715, 716, 717, 718, 719, 758, 759, 760, 761, 769, 770, 771] (by decide +kernel) (by decide +kernel)
set_option maxRecDepth 20000 in
theorem gL_law_X7_confused : GoodIn wsL_law (wsV RL 82 RX7 yX7_confused wsX7_confused) := goodIn_app (goodIn_of _ (by decide +kernel)) ggL_law_X7_confused
set_option maxRecDepth 20000 in
theorem ggL_law_X8_confused : GoodIn wsL_law wsX8_confused := goodIn_r _ [497, 283, 376, 285, 109, 143, 144, 5, 145, 498, 499, 500, 501, 118, 111, 427, 428, 429, 430, 110, 431, 432, 433, 434, 119, 435, 436, 437, 438, 182, 183, 184, 439, 440, 441, 442, 443, 444, 445, 446, 720, 721, 722, 723, 724, 725, 726, 727, 728, 729, 730, 731, 732, 733, 734, 735, 736, 737, 738, 739, 740, 741, 742, 743, 744, 745, 746, 747, 748, 749, 750, 751] (by decide +kernel) (by decide +kernel)
set_option maxRecDepth 20000 in
theorem gL_law_X8_confused : GoodIn wsL_law (wsV RL 85 RX8 yX8_confused wsX8_confused) := goodIn_app (goodIn_of _ (by decide +kernel)) ggL_law_X8_confused
set_option maxRecDepth 20000 in
theorem ggL_law_X7_between : GoodIn wsL_law wsX7_between := goodIn_r _ [505, 19, 27, 297, 300, 301, 302, 18, 303, 60, 382, 383, 384, 26, 385, 74, 386, 268, 269, 270, 387, 388, 389, 239, 172, 240, 390, 391, 392, 393, 394, 395, 396, 397, 75, 76, 398, 399, 400, 401, 402, 171, 173, 403, 404, 405, 406, 407, 408, 409, 410, 411, 412, 413, 414, 415, 416, 417, 418, 710, 711, 712, 713, 714, 715, 716, 717, 718, 719, 758, 759, 760, 761, 769, 770, 771] (by decide +kernel) (by decide +kernel)
set_option maxRecDepth 20000 in
theorem gL_law_X7_between : GoodIn wsL_law (wsV RL 86 RX7 yX7_between wsX7_between) := goodIn_app (goodIn_of _ (by decide +kernel)) ggL_law_X7_between
set_option maxRecDepth 20000 in
theorem ggL_law_X8_between : GoodIn wsL_law wsX8_between := goodIn_r _ [509, 313, 314, 315, 5, 316, 285, 143, 144, 145, 498, 499, 500, 501, 118, 111, 427, 428, 429, 430, 110, 431, 432, 433, 434, 119, 435, 436, 437, 438, 182, 183, 184, 439, 440, 441, 442, 443, 444, 445, 446, 720, 721, 722, 723, 724, 725, 726, 727, 728, 729, 730, 731, 732, 733, 734, 735, 736, 737, 738, 739, 740, 741, 742, 743, 744, 745, 746, 747, 748, 749, 750, 751] (by decide +kernel) (by decide +kernel)
set_option maxRecDepth 20000 in
theorem gL_law_X8_between : GoodIn wsL_law (wsV RL 89 RX8 yX8_between wsX8_between) := goodIn_app (goodIn_of _ (by decide +kernel)) ggL_law_X8_between
set_option maxRecDepth 20000 in
theorem ggL_law_X7_command : GoodIn wsL_law wsX7_command := goodIn_r _ [513, 31, 514, 191, 192, 2, 193, 515, 516, 517, 30, 518, 84, 80, 81, 82, 519, 520, 521, 522, 83, 710, 711, 712, 713, 714, 715, 716, 717, 718, 719, 772, 773, 774, 775, 776] (by decide +kernel) (by decide +kernel)
set_option maxRecDepth 20000 in
theorem gL_law_X7_command : GoodIn wsL_law (wsV RL 90 RX7 yX7_command wsX7_command) := goodIn_app (goodIn_of _ (by decide +kernel)) ggL_law_X7_command
set_option maxRecDepth 20000 in
theorem ggL_law_X8_command : GoodIn wsL_law wsX8_command := goodIn_r _ [526, 527, 283, 284, 528, 121, 122, 123, 124, 143, 144, 5, 145, 720, 721, 722, 723, 724, 725, 726, 727, 728, 729, 730, 731, 732, 733, 734, 735, 736, 737, 738, 739, 740, 741, 742, 743, 744, 745, 746, 747, 748, 749, 750, 751] (by decide +kernel) (by decide +kernel)
set_option maxRecDepth 20000 in
theorem gL_law_X8_command : GoodIn wsL_law (wsV RL 94 RX8 yX8_command wsX8_command) := goodIn_app (goodIn_of _ (by decide +kernel)) ggL_law_X8_command
