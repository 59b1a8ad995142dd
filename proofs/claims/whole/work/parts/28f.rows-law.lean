set_option maxRecDepth 20000 in
theorem ggL_law_X7_sheet : GoodIn wsL_law wsX7_sheet := goodIn_r _ [637, 39, 638, 639, 38, 640, 641, 642, 643, 644, 645, 646, 647, 97, 96, 98, 99, 710, 711, 712, 713, 714, 715, 716, 717, 718, 719, 782, 783, 784, 785] (by decide +kernel) (by decide +kernel)
set_option maxRecDepth 20000 in
theorem gL_law_X7_sheet : GoodIn wsL_law (wsV RL 115 RX7 yX7_sheet wsX7_sheet) := goodIn_app (goodIn_of _ (by decide +kernel)) ggL_law_X7_sheet
set_option maxRecDepth 20000 in
theorem ggL_law_X8_sheet : GoodIn wsL_law wsX8_sheet := goodIn_r _ [651, 125, 126, 127, 652, 653, 5, 654, 527, 256, 143, 144, 145, 720, 721, 722, 723, 724, 725, 726, 727, 728, 729, 730, 731, 732, 733, 734, 735, 736, 737, 738, 739, 740, 741, 742, 743, 744, 745, 746, 747, 748, 749, 750, 751] (by decide +kernel) (by decide +kernel)
set_option maxRecDepth 20000 in
theorem gL_law_X8_sheet : GoodIn wsL_law (wsV RL 118 RX8 yX8_sheet wsX8_sheet) := goodIn_app (goodIn_of _ (by decide +kernel)) ggL_law_X8_sheet
set_option maxRecDepth 20000 in
theorem ggL_law_X7_lay : GoodIn wsL_law wsX7_lay := goodIn_r _ [658, 39, 638, 639, 38, 640, 659, 660, 661, 662, 97, 663, 664, 665, 666, 98, 667, 668, 669, 670, 99, 96, 671, 672, 673, 710, 711, 712, 713, 714, 715, 716, 717, 718, 719, 782, 783, 784, 785] (by decide +kernel) (by decide +kernel)
set_option maxRecDepth 20000 in
theorem gL_law_X7_lay : GoodIn wsL_law (wsV RL 119 RX7 yX7_lay wsX7_lay) := goodIn_app (goodIn_of _ (by decide +kernel)) ggL_law_X7_lay
set_option maxRecDepth 20000 in
theorem ggL_law_X8_lay : GoodIn wsL_law wsX8_lay := goodIn_r _ [677, 125, 126, 127, 652, 653, 5, 654, 527, 256, 143, 144, 145, 720, 721, 722, 723, 724, 725, 726, 727, 728, 729, 730, 731, 732, 733, 734, 735, 736, 737, 738, 739, 740, 741, 742, 743, 744, 745, 746, 747, 748, 749, 750, 751] (by decide +kernel) (by decide +kernel)
set_option maxRecDepth 20000 in
theorem gL_law_X8_lay : GoodIn wsL_law (wsV RL 122 RX8 yX8_lay wsX8_lay) := goodIn_app (goodIn_of _ (by decide +kernel)) ggL_law_X8_lay
set_option maxRecDepth 20000 in
theorem ggL_law_X7_scan : GoodIn wsL_law wsX7_scan := goodIn_r _ [681, 39, 682, 15, 683, 638, 639, 38, 640, 641, 642, 643, 191, 192, 2, 193, 659, 660, 661, 662, 97, 684, 685, 686, 687, 663, 664, 665, 666, 98, 688, 689, 690, 691, 99, 132, 133, 134, 14, 135, 53, 47, 48, 50, 692, 693, 694, 695, 710, 711, 712, 713, 714, 715, 716, 717, 718, 719, 782, 783, 784, 785, 752, 753, 754, 755, 756, 757] (by decide +kernel) (by decide +kernel)
set_option maxRecDepth 20000 in
theorem gL_law_X7_scan : GoodIn wsL_law (wsV RL 123 RX7 yX7_scan wsX7_scan) := goodIn_app (goodIn_of _ (by decide +kernel)) ggL_law_X7_scan
set_option maxRecDepth 20000 in
theorem ggL_law_X8_scan : GoodIn wsL_law wsX8_scan := goodIn_r _ [699, 700, 125, 142, 527, 126, 127, 652, 653, 5, 654, 256, 143, 144, 145, 701, 137, 138, 139, 140, 141, 104, 105, 106, 720, 721, 722, 723, 724, 725, 726, 727, 728, 729, 730, 731, 732, 733, 734, 735, 736, 737, 738, 739, 740, 741, 742, 743, 744, 745, 746, 747, 748, 749, 750, 751] (by decide +kernel) (by decide +kernel)
set_option maxRecDepth 20000 in
theorem gL_law_X8_scan : GoodIn wsL_law (wsV RL 127 RX8 yX8_scan wsX8_scan) := goodIn_app (goodIn_of _ (by decide +kernel)) ggL_law_X8_scan
set_option maxRecDepth 20000 in
theorem ggL_law_X7_count : GoodIn wsL_law wsX7_count := goodIn_r _ [705, 15, 683, 19, 262, 31, 514, 35, 616, 23, 329, 710, 711, 712, 713, 714, 715, 716, 717, 718, 719, 752, 753, 754, 755, 756, 757, 758, 759, 760, 761, 772, 773, 774, 775, 776, 777, 778, 779, 780, 781, 762, 763, 764, 765, 766, 767, 768] (by decide +kernel) (by decide +kernel)
set_option maxRecDepth 20000 in
theorem gL_law_X7_count : GoodIn wsL_law (wsV RL 128 RX7 yX7_count wsX7_count) := goodIn_app (goodIn_of _ (by decide +kernel)) ggL_law_X7_count
set_option maxRecDepth 20000 in
theorem ggL_law_X8_count : GoodIn wsL_law wsX8_count := goodIn_r _ [709, 142, 285, 528, 484, 290, 720, 721, 722, 723, 724, 725, 726, 727, 728, 729, 730, 731, 732, 733, 734, 735, 736, 737, 738, 739, 740, 741, 742, 743, 744, 745, 746, 747, 748, 749, 750, 751] (by decide +kernel) (by decide +kernel)
set_option maxRecDepth 20000 in
theorem gL_law_X8_count : GoodIn wsL_law (wsV RL 131 RX8 yX8_count wsX8_count) := goodIn_app (goodIn_of _ (by decide +kernel)) ggL_law_X8_count
