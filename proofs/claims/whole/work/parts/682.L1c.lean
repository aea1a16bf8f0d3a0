section
set_option maxRecDepth 20000 in
theorem ggL_law_X7_echoes : GoodIn wsL_law wsX7_echoes := goodIn_r _ [697, 24, 698, 699, 2, 700, 104, 105, 106, 620, 621, 622, 23, 623, 153, 624, 424, 425, 701, 702, 703, 704, 631, 632, 633, 634, 629, 630, 930, 931, 932, 933, 934, 935, 936, 937, 962, 963, 964, 965, 966, 967] (by decide +kernel) (by decide +kernel)
set_option maxRecDepth 20000 in
theorem gL_law_X7_echoes : GoodIn wsL_law (wsV RL 103 RX7 yX7_echoes wsX7_echoes) := goodIn_app (goodIn_of _ (by decide +kernel)) ggL_law_X7_echoes
set_option maxRecDepth 20000 in
theorem ggL_law_X8_echoes : GoodIn wsL_law wsX8_echoes := goodIn_r _ [708, 257, 258, 259, 5, 260, 202, 203, 204, 205, 206, 207, 86, 208, 209, 210, 211, 212, 213, 214, 215, 87, 216, 217, 218, 219, 85, 173, 174, 175, 220, 221, 222, 223, 224, 225, 226, 227, 228, 229, 230, 231, 89, 232, 233, 234, 235, 709, 710, 711, 712, 488, 170, 171, 172, 713, 714, 715, 716, 717, 718, 719, 720, 648, 649, 650, 651, 652, 653, 654, 655, 938, 939, 940, 941, 942, 943, 944, 945, 946, 947, 948, 949, 950, 951, 952, 953, 954, 955] (by decide +kernel) (by decide +kernel)
set_option maxRecDepth 20000 in
theorem gL_law_X8_echoes : GoodIn wsL_law (wsV RL 106 RX8 yX8_echoes wsX8_echoes) := goodIn_app (goodIn_of _ (by decide +kernel)) ggL_law_X8_echoes
set_option maxRecDepth 20000 in
theorem ggL_law_X7_fog : GoodIn wsL_law wsX7_fog := goodIn_r _ [724, 24, 725, 726, 727, 620, 621, 622, 23, 623, 153, 624, 424, 425, 105, 2, 106, 104, 625, 626, 627, 628, 629, 630, 631, 632, 633, 634, 423, 728, 729, 730, 731, 732, 597, 733, 930, 931, 932, 933, 934, 935, 936, 937, 962, 963, 964, 965, 966, 967] (by decide +kernel) (by decide +kernel)
set_option maxRecDepth 20000 in
theorem gL_law_X7_fog : GoodIn wsL_law (wsV RL 107 RX7 yX7_fog wsX7_fog) := goodIn_app (goodIn_of _ (by decide +kernel)) ggL_law_X7_fog
set_option maxRecDepth 20000 in
theorem ggL_law_X8_fog : GoodIn wsL_law wsX8_fog := goodIn_r _ [737, 738, 257, 258, 259, 5, 260, 202, 203, 204, 205, 206, 207, 86, 208, 209, 210, 211, 212, 213, 214, 215, 87, 216, 217, 218, 219, 85, 173, 174, 175, 220, 221, 222, 223, 224, 225, 226, 227, 228, 229, 230, 231, 89, 232, 233, 234, 235, 640, 641, 642, 643, 434, 435, 436, 437, 170, 171, 172, 739, 740, 741, 742, 664, 665, 666, 667, 652, 653, 654, 655, 488, 743, 744, 745, 746, 747, 748, 749, 938, 939, 940, 941, 942, 943, 944, 945, 946, 947, 948, 949, 950, 951, 952, 953, 954, 955] (by decide +kernel) (by decide +kernel)
set_option maxRecDepth 20000 in
theorem gL_law_X8_fog : GoodIn wsL_law (wsV RL 111 RX8 yX8_fog wsX8_fog) := goodIn_app (goodIn_of _ (by decide +kernel)) ggL_law_X8_fog
set_option maxRecDepth 20000 in
theorem ggL_law_X7_sheet : GoodIn wsL_law wsX7_sheet := goodIn_r _ [753, 754, 755, 756, 2, 757, 34, 104, 105, 106, 758, 759, 760, 761, 37, 762, 763, 764, 36, 765, 766, 767, 596, 597, 598, 768, 769, 770, 771, 76, 75, 930, 931, 932, 933, 934, 935, 936, 937, 976, 977, 978, 979] (by decide +kernel) (by decide +kernel)
set_option maxRecDepth 20000 in
theorem gL_law_X7_sheet : GoodIn wsL_law (wsV RL 112 RX7 yX7_sheet wsX7_sheet) := goodIn_app (goodIn_of _ (by decide +kernel)) ggL_law_X7_sheet
set_option maxRecDepth 20000 in
theorem ggL_law_X8_sheet : GoodIn wsL_law wsX8_sheet := goodIn_r _ [775, 297, 81, 82, 83, 776, 777, 5, 778, 268, 173, 174, 175, 779, 780, 781, 782, 783, 938, 939, 940, 941, 942, 943, 944, 945, 946, 947, 948, 949, 950, 951, 952, 953, 954, 955] (by decide +kernel) (by decide +kernel)
set_option maxRecDepth 20000 in
theorem gL_law_X8_sheet : GoodIn wsL_law (wsV RL 115 RX8 yX8_sheet wsX8_sheet) := goodIn_app (goodIn_of _ (by decide +kernel)) ggL_law_X8_sheet
set_option maxRecDepth 20000 in
theorem ggL_law_X7_lose : GoodIn wsL_law wsX7_lose := goodIn_r _ [787, 788, 789, 754, 755, 756, 2, 757, 34, 104, 105, 106, 758, 759, 760, 761, 37, 976, 977, 978, 979, 930, 931, 932, 933, 934, 935, 936, 937] (by decide +kernel) (by decide +kernel)
set_option maxRecDepth 20000 in
theorem gL_law_X7_lose : GoodIn wsL_law (wsV RL 116 RX7 yX7_lose wsX7_lose) := goodIn_app (goodIn_of _ (by decide +kernel)) ggL_law_X7_lose
set_option maxRecDepth 20000 in
theorem ggL_law_X8_lose : GoodIn wsL_law wsX8_lose := goodIn_r _ [793, 81, 82, 776, 777, 5, 778, 268, 173, 174, 175, 779, 780, 781, 782, 783, 938, 939, 940, 941, 942, 943, 944, 945, 946, 947, 948, 949, 950, 951, 952, 953, 954, 955] (by decide +kernel) (by decide +kernel)
set_option maxRecDepth 20000 in
theorem gL_law_X8_lose : GoodIn wsL_law (wsV RL 119 RX8 yX8_lose wsX8_lose) := goodIn_app (goodIn_of _ (by decide +kernel)) ggL_law_X8_lose
set_option maxRecDepth 20000 in
theorem ggL_law_X7_lay : GoodIn wsL_law wsX7_lay := goodIn_r _ [797, 754, 755, 756, 2, 757, 34, 104, 105, 106, 798, 799, 800, 36, 801, 76, 766, 771, 758, 759, 760, 761, 37, 802, 803, 804, 805, 75, 930, 931, 932, 933, 934, 935, 936, 937, 976, 977, 978, 979] (by decide +kernel) (by decide +kernel)
set_option maxRecDepth 20000 in
theorem gL_law_X7_lay : GoodIn wsL_law (wsV RL 120 RX7 yX7_lay wsX7_lay) := goodIn_app (goodIn_of _ (by decide +kernel)) ggL_law_X7_lay
set_option maxRecDepth 20000 in
theorem ggL_law_X8_lay : GoodIn wsL_law wsX8_lay := goodIn_r _ [809, 297, 83, 776, 777, 5, 778, 268, 173, 174, 175, 810, 811, 812, 813, 81, 82, 779, 780, 781, 782, 783, 814, 815, 816, 938, 939, 940, 941, 942, 943, 944, 945, 946, 947, 948, 949, 950, 951, 952, 953, 954, 955] (by decide +kernel) (by decide +kernel)
set_option maxRecDepth 20000 in
theorem gL_law_X8_lay : GoodIn wsL_law (wsV RL 124 RX8 yX8_lay wsX8_lay) := goodIn_app (goodIn_of _ (by decide +kernel)) ggL_law_X8_lay
set_option maxRecDepth 20000 in
theorem ggL_law_X7_get : GoodIn wsL_law wsX7_get := goodIn_r _ [820, 821, 37, 754, 755, 756, 2, 757, 34, 104, 105, 106, 798, 799, 800, 36, 801, 76, 766, 771, 822, 823, 824, 825, 75, 930, 931, 932, 933, 934, 935, 936, 937, 976, 977, 978, 979] (by decide +kernel) (by decide +kernel)
set_option maxRecDepth 20000 in
theorem gL_law_X7_get : GoodIn wsL_law (wsV RL 125 RX7 yX7_get wsX7_get) := goodIn_app (goodIn_of _ (by decide +kernel)) ggL_law_X7_get
set_option maxRecDepth 20000 in
theorem ggL_law_X8_get : GoodIn wsL_law wsX8_get := goodIn_r _ [829, 297, 830, 83, 776, 777, 5, 778, 268, 173, 174, 175, 810, 811, 812, 813, 81, 82, 779, 780, 781, 782, 783, 938, 939, 940, 941, 942, 943, 944, 945, 946, 947, 948, 949, 950, 951, 952, 953, 954, 955] (by decide +kernel) (by decide +kernel)
set_option maxRecDepth 20000 in
theorem gL_law_X8_get : GoodIn wsL_law (wsV RL 128 RX8 yX8_get wsX8_get) := goodIn_app (goodIn_of _ (by decide +kernel)) ggL_law_X8_get
set_option maxRecDepth 20000 in
theorem ggL_law_X7_copy : GoodIn wsL_law wsX7_copy := goodIn_r _ [834, 788, 835, 836, 837, 838, 839, 840, 754, 755, 756, 2, 757, 34, 104, 105, 106, 758, 759, 760, 761, 37, 841, 842, 843, 36, 844, 771, 976, 977, 978, 979, 930, 931, 932, 933, 934, 935, 936, 937] (by decide +kernel) (by decide +kernel)
set_option maxRecDepth 20000 in
theorem gL_law_X7_copy : GoodIn wsL_law (wsV RL 129 RX7 yX7_copy wsX7_copy) := goodIn_app (goodIn_of _ (by decide +kernel)) ggL_law_X7_copy
set_option maxRecDepth 20000 in
theorem ggL_law_X8_copy : GoodIn wsL_law wsX8_copy := goodIn_r _ [848, 81, 82, 84, 83, 776, 777, 5, 778, 268, 173, 174, 175, 779, 780, 781, 782, 783, 938, 939, 940, 941, 942, 943, 944, 945, 946, 947, 948, 949, 950, 951, 952, 953, 954, 955] (by decide +kernel) (by decide +kernel)
set_option maxRecDepth 20000 in
theorem gL_law_X8_copy : GoodIn wsL_law (wsV RL 132 RX8 yX8_copy wsX8_copy) := goodIn_app (goodIn_of _ (by decide +kernel)) ggL_law_X8_copy
set_option maxRecDepth 20000 in
theorem ggL_law_X7_write : GoodIn wsL_law wsX7_write := goodIn_r _ [852, 788, 789, 24, 754, 755, 756, 2, 757, 34, 104, 105, 106, 758, 759, 760, 761, 37, 620, 621, 622, 23, 623, 153, 624, 424, 425, 853, 617, 618, 619, 625, 626, 627, 628, 629, 630, 631, 632, 633, 634, 635, 498, 499, 500, 501, 502, 503, 802, 803, 804, 36, 805, 771, 75, 766, 976, 977, 978, 979, 930, 931, 932, 933, 934, 935, 936, 937, 962, 963, 964, 965, 966, 967] (by decide +kernel) (by decide +kernel)
set_option maxRecDepth 20000 in
theorem gL_law_X7_write : GoodIn wsL_law (wsV RL 133 RX7 yX7_write wsX7_write) := goodIn_app (goodIn_of _ (by decide +kernel)) ggL_law_X7_write
set_option maxRecDepth 20000 in
theorem ggL_law_X8_write : GoodIn wsL_law wsX8_write := goodIn_r _ [857, 81, 82, 83, 89, 776, 777, 5, 778, 268, 173, 174, 175, 779, 780, 781, 782, 783, 257, 258, 259, 260, 202, 203, 204, 205, 206, 207, 86, 208, 209, 210, 211, 212, 213, 214, 215, 87, 216, 217, 218, 219, 85, 220, 221, 222, 223, 224, 225, 226, 227, 228, 229, 230, 231, 232, 233, 234, 235, 644, 645, 646, 647, 648, 649, 650, 651, 652, 653, 654, 655, 488, 814, 815, 816, 938, 939, 940, 941, 942, 943, 944, 945, 946, 947, 948, 949, 950, 951, 952, 953, 954, 955] (by decide +kernel) (by decide +kernel)
set_option maxRecDepth 20000 in
theorem gL_law_X8_write : GoodIn wsL_law (wsV RL 136 RX8 yX8_write wsX8_write) := goodIn_app (goodIn_of _ (by decide +kernel)) ggL_law_X8_write
set_option maxRecDepth 20000 in
theorem ggL_law_X7_read : GoodIn wsL_law wsX7_read := goodIn_r _ [861, 788, 789, 754, 755, 756, 2, 757, 34, 104, 105, 106, 758, 759, 760, 761, 37, 822, 823, 824, 36, 825, 771, 75, 862, 531, 532, 533, 32, 534, 535, 536, 31, 537, 538, 539, 540, 541, 542, 69, 70, 976, 977, 978, 979, 930, 931, 932, 933, 934, 935, 936, 937, 972, 973, 974, 975] (by decide +kernel) (by decide +kernel)
set_option maxRecDepth 20000 in
theorem gL_law_X7_read : GoodIn wsL_law (wsV RL 137 RX7 yX7_read wsX7_read) := goodIn_app (goodIn_of _ (by decide +kernel)) ggL_law_X7_read
set_option maxRecDepth 20000 in
theorem ggL_law_X8_read : GoodIn wsL_law wsX8_read := goodIn_r _ [866, 81, 82, 83, 776, 777, 5, 778, 268, 173, 174, 175, 779, 780, 781, 782, 783, 867, 544, 545, 546, 547, 548, 92, 938, 939, 940, 941, 942, 943, 944, 945, 946, 947, 948, 949, 950, 951, 952, 953, 954, 955] (by decide +kernel) (by decide +kernel)
set_option maxRecDepth 20000 in
theorem gL_law_X8_read : GoodIn wsL_law (wsV RL 140 RX8 yX8_read wsX8_read) := goodIn_app (goodIn_of _ (by decide +kernel)) ggL_law_X8_read
set_option maxRecDepth 20000 in
theorem ggL_law_X7_count : GoodIn wsL_law wsX7_count := goodIn_r _ [871, 20, 248, 24, 872, 15, 99, 16, 32, 534, 37, 635, 498, 499, 500, 501, 502, 503, 873, 874, 875, 19, 876, 120, 372, 250, 251, 252, 48, 877, 337, 338, 339, 340, 341, 342, 878, 879, 880, 881, 882, 329, 137, 330, 331, 332, 883, 884, 885, 886, 887, 285, 286, 142, 143, 144, 145, 373, 374, 375, 376, 288, 289, 290, 291, 377, 147, 148, 930, 931, 932, 933, 934, 935, 936, 937, 958, 959, 960, 961, 962, 963, 964, 965, 966, 967, 956, 957, 972, 973, 974, 975] (by decide +kernel) (by decide +kernel)
set_option maxRecDepth 20000 in
theorem gL_law_X7_count : GoodIn wsL_law (wsV RL 141 RX7 yX7_count wsX7_count) := goodIn_app (goodIn_of _ (by decide +kernel)) ggL_law_X7_count
set_option maxRecDepth 20000 in
theorem ggL_law_X8_count : GoodIn wsL_law wsX8_count := goodIn_r _ [891, 207, 89, 86, 548, 87, 783, 257, 258, 259, 5, 260, 202, 203, 204, 205, 206, 208, 209, 210, 211, 212, 213, 214, 215, 216, 217, 218, 219, 85, 173, 174, 175, 220, 221, 222, 223, 224, 225, 226, 227, 228, 229, 230, 231, 232, 233, 234, 235, 361, 362, 363, 352, 353, 354, 355, 356, 357, 268, 275, 276, 277, 321, 322, 323, 298, 299, 300, 386, 387, 388, 269, 270, 271, 272, 273, 274, 301, 302, 303, 304, 305, 938, 939, 940, 941, 942, 943, 944, 945, 946, 947, 948, 949, 950, 951, 952, 953, 954, 955] (by decide +kernel) (by decide +kernel)
set_option maxRecDepth 20000 in
theorem gL_law_X8_count : GoodIn wsL_law (wsV RL 144 RX8 yX8_count wsX8_count) := goodIn_app (goodIn_of _ (by decide +kernel)) ggL_law_X8_count
end
