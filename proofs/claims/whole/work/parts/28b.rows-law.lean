set_option maxRecDepth 20000 in
theorem ggL_law_X7_normal : GoodIn wsL_law wsX7_normal := goodIn_r _ [227, 15, 189, 228, 191, 192, 2, 193, 229, 230, 231, 14, 232, 52, 233, 195, 196, 197, 198, 163, 164, 165, 53, 166, 167, 168, 169, 50, 47, 170, 171, 172, 173, 48, 199, 200, 201, 202, 51, 203, 204, 205, 206, 207, 208, 209, 234, 235, 236, 237, 238, 239, 240, 241, 242, 243, 244, 245, 246, 247, 710, 711, 712, 713, 714, 715, 716, 717, 718, 719, 752, 753, 754, 755, 756, 757] (by decide +kernel) (by decide +kernel)
set_option maxRecDepth 20000 in
theorem gL_law_X7_normal : GoodIn wsL_law (wsV RL 32 RX7 yX7_normal wsX7_normal) := goodIn_app (goodIn_of _ (by decide +kernel)) ggL_law_X7_normal
set_option maxRecDepth 20000 in
theorem ggL_law_X8_normal : GoodIn wsL_law wsX8_normal := goodIn_r _ [251, 214, 215, 108, 216, 175, 176, 5, 177, 142, 178, 179, 180, 181, 106, 104, 105, 182, 183, 184, 143, 144, 145, 252, 253, 254, 255, 107, 256, 257, 217, 218, 219, 220, 141, 221, 222, 223, 720, 721, 722, 723, 724, 725, 726, 727, 728, 729, 730, 731, 732, 733, 734, 735, 736, 737, 738, 739, 740, 741, 742, 743, 744, 745, 746, 747, 748, 749, 750, 751] (by decide +kernel) (by decide +kernel)
set_option maxRecDepth 20000 in
theorem gL_law_X8_normal : GoodIn wsL_law (wsV RL 35 RX8 yX8_normal wsX8_normal) := goodIn_app (goodIn_of _ (by decide +kernel)) ggL_law_X8_normal
set_option maxRecDepth 20000 in
theorem ggL_law_X7_teach : GoodIn wsL_law wsX7_teach := goodIn_r _ [261, 15, 19, 262, 228, 23, 191, 192, 2, 193, 229, 230, 231, 14, 232, 52, 233, 195, 196, 197, 198, 163, 164, 165, 53, 166, 167, 168, 169, 50, 47, 170, 171, 172, 173, 48, 199, 200, 201, 202, 51, 203, 204, 205, 206, 207, 208, 209, 234, 235, 236, 237, 238, 239, 240, 241, 242, 243, 244, 245, 246, 247, 263, 264, 265, 18, 266, 60, 57, 267, 268, 269, 270, 58, 59, 271, 272, 273, 22, 274, 70, 64, 65, 66, 67, 69, 275, 276, 277, 278, 710, 711, 712, 713, 714, 715, 716, 717, 718, 719, 758, 759, 760, 761, 752, 753, 754, 755, 756, 757, 762, 763, 764, 765, 766, 767, 768] (by decide +kernel) (by decide +kernel)
set_option maxRecDepth 20000 in
theorem gL_law_X7_teach : GoodIn wsL_law (wsV RL 36 RX7 yX7_teach wsX7_teach) := goodIn_app (goodIn_of _ (by decide +kernel)) ggL_law_X7_teach
set_option maxRecDepth 20000 in
theorem ggL_law_X8_teach : GoodIn wsL_law wsX8_teach := goodIn_r _ [282, 283, 284, 285, 109, 110, 111, 108, 143, 144, 5, 145, 216, 175, 176, 177, 142, 178, 179, 180, 181, 106, 104, 105, 182, 183, 184, 252, 253, 254, 255, 107, 256, 257, 217, 218, 219, 220, 141, 221, 222, 223, 286, 287, 288, 289, 290, 112, 113, 114, 115, 116, 720, 721, 722, 723, 724, 725, 726, 727, 728, 729, 730, 731, 732, 733, 734, 735, 736, 737, 738, 739, 740, 741, 742, 743, 744, 745, 746, 747, 748, 749, 750, 751] (by decide +kernel) (by decide +kernel)
set_option maxRecDepth 20000 in
theorem gL_law_X8_teach : GoodIn wsL_law (wsV RL 39 RX8 yX8_teach wsX8_teach) := goodIn_app (goodIn_of _ (by decide +kernel)) ggL_law_X8_teach
set_option maxRecDepth 20000 in
theorem ggL_law_X7_forget : GoodIn wsL_law wsX7_forget := goodIn_r _ [294, 19, 295, 23, 296, 297, 298, 299, 268, 269, 270, 300, 301, 302, 18, 303, 60, 271, 272, 273, 22, 274, 70, 64, 65, 66, 67, 69, 275, 239, 172, 240, 276, 277, 208, 278, 304, 305, 306, 307, 57, 267, 58, 59, 308, 710, 711, 712, 713, 714, 715, 716, 717, 718, 719, 758, 759, 760, 761, 762, 763, 764, 765, 766, 767, 768] (by decide +kernel) (by decide +kernel)
set_option maxRecDepth 20000 in
theorem gL_law_X7_forget : GoodIn wsL_law (wsV RL 40 RX7 yX7_forget wsX7_forget) := goodIn_app (goodIn_of _ (by decide +kernel)) ggL_law_X7_forget
set_option maxRecDepth 20000 in
theorem ggL_law_X8_forget : GoodIn wsL_law wsX8_forget := goodIn_r _ [312, 109, 313, 314, 315, 5, 316, 285, 143, 144, 145, 286, 287, 288, 289, 290, 112, 113, 114, 115, 116, 110, 111, 317, 318, 319, 320, 321, 322, 323, 324, 720, 721, 722, 723, 724, 725, 726, 727, 728, 729, 730, 731, 732, 733, 734, 735, 736, 737, 738, 739, 740, 741, 742, 743, 744, 745, 746, 747, 748, 749, 750, 751] (by decide +kernel) (by decide +kernel)
set_option maxRecDepth 20000 in
theorem gL_law_X8_forget : GoodIn wsL_law (wsV RL 44 RX8 yX8_forget wsX8_forget) := goodIn_app (goodIn_of _ (by decide +kernel)) ggL_law_X8_forget
set_option maxRecDepth 20000 in
theorem ggL_law_X7_undo : GoodIn wsL_law wsX7_undo := goodIn_r _ [328, 23, 329, 330, 331, 19, 332, 333, 298, 295, 334, 335, 336, 22, 337, 70, 69, 338, 242, 172, 243, 276, 277, 208, 278, 304, 305, 306, 18, 307, 60, 57, 267, 268, 269, 270, 58, 59, 308, 301, 302, 303, 263, 264, 265, 266, 300, 710, 711, 712, 713, 714, 715, 716, 717, 718, 719, 762, 763, 764, 765, 766, 767, 768, 758, 759, 760, 761] (by decide +kernel) (by decide +kernel)
set_option maxRecDepth 20000 in
theorem gL_law_X7_undo : GoodIn wsL_law (wsV RL 45 RX7 yX7_undo wsX7_undo) := goodIn_app (goodIn_of _ (by decide +kernel)) ggL_law_X7_undo
set_option maxRecDepth 20000 in
theorem ggL_law_X8_undo : GoodIn wsL_law wsX8_undo := goodIn_r _ [342, 290, 113, 112, 285, 109, 114, 110, 115, 111, 116, 317, 318, 319, 5, 320, 321, 322, 323, 324, 720, 721, 722, 723, 724, 725, 726, 727, 728, 729, 730, 731, 732, 733, 734, 735, 736, 737, 738, 739, 740, 741, 742, 743, 744, 745, 746, 747, 748, 749, 750, 751] (by decide +kernel) (by decide +kernel)
set_option maxRecDepth 20000 in
theorem gL_law_X8_undo : GoodIn wsL_law (wsV RL 48 RX8 yX8_undo wsX8_undo) := goodIn_app (goodIn_of _ (by decide +kernel)) ggL_law_X8_undo
set_option maxRecDepth 20000 in
theorem ggL_law_X7_label : GoodIn wsL_law wsX7_label := goodIn_r _ [346, 19, 295, 23, 296, 300, 301, 302, 18, 303, 60, 191, 192, 2, 193, 271, 272, 273, 22, 274, 70, 64, 65, 66, 67, 69, 275, 239, 172, 240, 276, 277, 208, 278, 710, 711, 712, 713, 714, 715, 716, 717, 718, 719, 758, 759, 760, 761, 762, 763, 764, 765, 766, 767, 768] (by decide +kernel) (by decide +kernel)
set_option maxRecDepth 20000 in
theorem gL_law_X7_label : GoodIn wsL_law (wsV RL 49 RX7 yX7_label wsX7_label) := goodIn_app (goodIn_of _ (by decide +kernel)) ggL_law_X7_label
set_option maxRecDepth 20000 in
theorem ggL_law_X8_label : GoodIn wsL_law wsX8_label := goodIn_r _ [350, 283, 109, 313, 314, 315, 5, 316, 285, 143, 144, 145, 286, 287, 288, 289, 290, 112, 113, 114, 115, 116, 110, 111, 720, 721, 722, 723, 724, 725, 726, 727, 728, 729, 730, 731, 732, 733, 734, 735, 736, 737, 738, 739, 740, 741, 742, 743, 744, 745, 746, 747, 748, 749, 750, 751] (by decide +kernel) (by decide +kernel)
set_option maxRecDepth 20000 in
theorem gL_law_X8_label : GoodIn wsL_law (wsV RL 52 RX8 yX8_label wsX8_label) := goodIn_app (goodIn_of _ (by decide +kernel)) ggL_law_X8_label
