set_option maxRecDepth 20000 in
theorem ggL_law_X7_parse : GoodIn wsL_law wsX7_parse := goodIn_r _ [532, 35, 31, 533, 191, 192, 2, 193, 534, 535, 536, 34, 537, 92, 91, 89, 90, 538, 539, 242, 172, 243, 540, 541, 542, 543, 544, 545, 546, 547, 30, 548, 80, 549, 550, 551, 552, 88, 553, 554, 555, 556, 83, 557, 558, 559, 560, 82, 81, 710, 711, 712, 713, 714, 715, 716, 717, 718, 719, 777, 778, 779, 780, 781, 772, 773, 774, 775, 776] (by decide +kernel) (by decide +kernel)
set_option maxRecDepth 20000 in
theorem gL_law_X7_parse : GoodIn wsL_law (wsV RL 95 RX7 yX7_parse wsX7_parse) := goodIn_app (goodIn_of _ (by decide +kernel)) ggL_law_X7_parse
set_option maxRecDepth 20000 in
theorem ggL_law_X8_parse : GoodIn wsL_law wsX8_parse := goodIn_r _ [564, 527, 143, 144, 5, 145, 565, 566, 567, 568, 569, 570, 484, 123, 571, 572, 573, 574, 528, 121, 122, 575, 576, 577, 578, 120, 124, 720, 721, 722, 723, 724, 725, 726, 727, 728, 729, 730, 731, 732, 733, 734, 735, 736, 737, 738, 739, 740, 741, 742, 743, 744, 745, 746, 747, 748, 749, 750, 751] (by decide +kernel) (by decide +kernel)
set_option maxRecDepth 20000 in
theorem gL_law_X8_parse : GoodIn wsL_law (wsV RL 98 RX8 yX8_parse wsX8_parse) := goodIn_app (goodIn_of _ (by decide +kernel)) ggL_law_X8_parse
set_option maxRecDepth 20000 in
theorem ggL_law_X7_found : GoodIn wsL_law wsX7_found := goodIn_r _ [582, 35, 31, 533, 583, 584, 191, 192, 2, 193, 534, 535, 536, 34, 537, 92, 91, 89, 90, 538, 539, 242, 172, 243, 540, 541, 542, 543, 544, 545, 546, 547, 30, 548, 80, 549, 550, 551, 552, 88, 553, 554, 555, 556, 83, 557, 558, 559, 560, 82, 81, 710, 711, 712, 713, 714, 715, 716, 717, 718, 719, 777, 778, 779, 780, 781, 772, 773, 774, 775, 776] (by decide +kernel) (by decide +kernel)
set_option maxRecDepth 20000 in
theorem gL_law_X7_found : GoodIn wsL_law (wsV RL 99 RX7 yX7_found wsX7_found) := goodIn_app (goodIn_of _ (by decide +kernel)) ggL_law_X7_found
set_option maxRecDepth 20000 in
theorem ggL_law_X8_found : GoodIn wsL_law wsX8_found := goodIn_r _ [588, 527, 569, 570, 143, 144, 5, 145, 565, 566, 567, 568, 484, 123, 571, 572, 573, 574, 528, 121, 122, 575, 576, 577, 578, 120, 124, 720, 721, 722, 723, 724, 725, 726, 727, 728, 729, 730, 731, 732, 733, 734, 735, 736, 737, 738, 739, 740, 741, 742, 743, 744, 745, 746, 747, 748, 749, 750, 751] (by decide +kernel) (by decide +kernel)
set_option maxRecDepth 20000 in
theorem gL_law_X8_found : GoodIn wsL_law (wsV RL 102 RX8 yX8_found wsX8_found) := goodIn_app (goodIn_of _ (by decide +kernel)) ggL_law_X8_found
set_option maxRecDepth 20000 in
theorem ggL_law_X7_hidden : GoodIn wsL_law wsX7_hidden := goodIn_r _ [592, 31, 514, 593, 594, 595, 30, 596, 84, 80, 597, 546, 547, 548, 598, 599, 600, 601, 82, 602, 554, 555, 556, 83, 603, 558, 559, 560, 81, 710, 711, 712, 713, 714, 715, 716, 717, 718, 719, 772, 773, 774, 775, 776] (by decide +kernel) (by decide +kernel)
set_option maxRecDepth 20000 in
theorem gL_law_X7_hidden : GoodIn wsL_law (wsV RL 103 RX7 yX7_hidden wsX7_hidden) := goodIn_app (goodIn_of _ (by decide +kernel)) ggL_law_X7_hidden
set_option maxRecDepth 20000 in
theorem ggL_law_X8_hidden : GoodIn wsL_law wsX8_hidden := goodIn_r _ [607, 528, 608, 609, 610, 5, 611, 123, 121, 124, 122, 720, 721, 722, 723, 724, 725, 726, 727, 728, 729, 730, 731, 732, 733, 734, 735, 736, 737, 738, 739, 740, 741, 742, 743, 744, 745, 746, 747, 748, 749, 750, 751] (by decide +kernel) (by decide +kernel)
set_option maxRecDepth 20000 in
theorem gL_law_X8_hidden : GoodIn wsL_law (wsV RL 106 RX8 yX8_hidden wsX8_hidden) := goodIn_app (goodIn_of _ (by decide +kernel)) ggL_law_X8_hidden
set_option maxRecDepth 20000 in
theorem ggL_law_X7_line : GoodIn wsL_law wsX7_line := goodIn_r _ [615, 35, 616, 617, 710, 711, 712, 713, 714, 715, 716, 717, 718, 719, 777, 778, 779, 780, 781] (by decide +kernel) (by decide +kernel)
set_option maxRecDepth 20000 in
theorem gL_law_X7_line : GoodIn wsL_law (wsV RL 107 RX7 yX7_line wsX7_line) := goodIn_app (goodIn_of _ (by decide +kernel)) ggL_law_X7_line
set_option maxRecDepth 20000 in
theorem ggL_law_X8_line : GoodIn wsL_law wsX8_line := goodIn_r _ [621, 484, 120, 143, 144, 5, 145, 720, 721, 722, 723, 724, 725, 726, 727, 728, 729, 730, 731, 732, 733, 734, 735, 736, 737, 738, 739, 740, 741, 742, 743, 744, 745, 746, 747, 748, 749, 750, 751] (by decide +kernel) (by decide +kernel)
set_option maxRecDepth 20000 in
theorem gL_law_X8_line : GoodIn wsL_law (wsV RL 110 RX8 yX8_line wsX8_line) := goodIn_app (goodIn_of _ (by decide +kernel)) ggL_law_X8_line
set_option maxRecDepth 20000 in
theorem ggL_law_X7_wipe : GoodIn wsL_law wsX7_wipe := goodIn_r _ [625, 35, 626, 627, 628, 34, 629, 91, 710, 711, 712, 713, 714, 715, 716, 717, 718, 719, 777, 778, 779, 780, 781] (by decide +kernel) (by decide +kernel)
set_option maxRecDepth 20000 in
theorem gL_law_X7_wipe : GoodIn wsL_law (wsV RL 111 RX7 yX7_wipe wsX7_wipe) := goodIn_app (goodIn_of _ (by decide +kernel)) ggL_law_X7_wipe
set_option maxRecDepth 20000 in
theorem ggL_law_X8_wipe : GoodIn wsL_law wsX8_wipe := goodIn_r _ [633, 484, 720, 721, 722, 723, 724, 725, 726, 727, 728, 729, 730, 731, 732, 733, 734, 735, 736, 737, 738, 739, 740, 741, 742, 743, 744, 745, 746, 747, 748, 749, 750, 751] (by decide +kernel) (by decide +kernel)
set_option maxRecDepth 20000 in
theorem gL_law_X8_wipe : GoodIn wsL_law (wsV RL 114 RX8 yX8_wipe wsX8_wipe) := goodIn_app (goodIn_of _ (by decide +kernel)) ggL_law_X8_wipe
