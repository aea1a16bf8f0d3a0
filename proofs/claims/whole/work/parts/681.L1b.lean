section
set_option maxRecDepth 20000 in
theorem ggL_law_X7_stands : GoodIn wsL_law wsX7_stands := goodIn_r _ [407, 408, 409, 410, 2, 411, 240, 241, 242, 243, 244, 245, 246, 247, 20, 248, 104, 105, 106, 412, 413, 414, 415, 24, 249, 250, 251, 19, 252, 48, 416, 417, 418, 23, 419, 420, 421, 153, 422, 143, 137, 144, 145, 423, 424, 425, 930, 931, 932, 933, 934, 935, 936, 937, 958, 959, 960, 961, 962, 963, 964, 965, 966, 967] (by decide +kernel) (by decide +kernel)
set_option maxRecDepth 20000 in
theorem gL_law_X7_stands : GoodIn wsL_law (wsV RL 56 RX7 yX7_stands wsX7_stands) := goodIn_app (goodIn_of _ (by decide +kernel)) ggL_law_X7_stands
set_option maxRecDepth 20000 in
theorem ggL_law_X8_stands : GoodIn wsL_law wsX8_stands := goodIn_r _ [429, 87, 257, 258, 259, 5, 260, 202, 203, 204, 205, 206, 207, 86, 208, 209, 210, 211, 212, 213, 214, 215, 216, 217, 218, 219, 85, 173, 174, 175, 220, 221, 222, 223, 224, 225, 226, 227, 228, 229, 230, 231, 89, 232, 233, 234, 235, 430, 431, 432, 433, 261, 262, 263, 264, 265, 266, 267, 268, 434, 435, 436, 437, 269, 270, 271, 272, 273, 274, 275, 276, 277, 438, 439, 440, 441, 321, 322, 323, 938, 939, 940, 941, 942, 943, 944, 945, 946, 947, 948, 949, 950, 951, 952, 953, 954, 955] (by decide +kernel) (by decide +kernel)
set_option maxRecDepth 20000 in
theorem gL_law_X8_stands : GoodIn wsL_law (wsV RL 59 RX8 yX8_stands wsX8_stands) := goodIn_app (goodIn_of _ (by decide +kernel)) ggL_law_X8_stands
set_option maxRecDepth 20000 in
theorem ggL_law_X7_through : GoodIn wsL_law wsX7_through := goodIn_r _ [445, 28, 20, 24, 408, 409, 410, 2, 411, 240, 241, 242, 243, 244, 245, 246, 247, 248, 104, 105, 106, 412, 413, 414, 415, 249, 250, 251, 19, 252, 48, 416, 417, 418, 23, 419, 420, 421, 153, 422, 143, 137, 144, 145, 423, 424, 425, 446, 447, 448, 27, 449, 62, 63, 64, 450, 451, 452, 453, 454, 455, 456, 457, 458, 459, 460, 461, 462, 463, 464, 65, 465, 466, 467, 468, 469, 470, 930, 931, 932, 933, 934, 935, 936, 937, 958, 959, 960, 961, 962, 963, 964, 965, 966, 967, 968, 969, 970, 971] (by decide +kernel) (by decide +kernel)
set_option maxRecDepth 20000 in
theorem gL_law_X7_through : GoodIn wsL_law (wsV RL 60 RX7 yX7_through wsX7_through) := goodIn_app (goodIn_of _ (by decide +kernel)) ggL_law_X7_through
set_option maxRecDepth 20000 in
theorem ggL_law_X8_through : GoodIn wsL_law wsX8_through := goodIn_r _ [474, 257, 258, 259, 5, 260, 202, 203, 204, 205, 206, 207, 86, 208, 209, 210, 211, 212, 213, 214, 215, 87, 216, 217, 218, 219, 85, 173, 174, 175, 220, 221, 222, 223, 224, 225, 226, 227, 228, 229, 230, 231, 89, 232, 233, 234, 235, 430, 431, 432, 433, 261, 262, 263, 264, 265, 266, 267, 268, 434, 435, 436, 437, 475, 476, 477, 478, 90, 269, 270, 271, 272, 273, 274, 275, 276, 277, 438, 439, 440, 441, 321, 322, 323, 479, 480, 481, 482, 483, 91, 484, 485, 486, 487, 488, 938, 939, 940, 941, 942, 943, 944, 945, 946, 947, 948, 949, 950, 951, 952, 953, 954, 955] (by decide +kernel) (by decide +kernel)
set_option maxRecDepth 20000 in
theorem gL_law_X8_through : GoodIn wsL_law (wsV RL 64 RX8 yX8_through wsX8_through) := goodIn_app (goodIn_of _ (by decide +kernel)) ggL_law_X8_through
set_option maxRecDepth 20000 in
theorem ggL_law_X7_reach : GoodIn wsL_law wsX7_reach := goodIn_r _ [492, 28, 20, 24, 408, 409, 410, 2, 411, 240, 241, 242, 243, 244, 245, 246, 247, 248, 104, 105, 106, 412, 413, 414, 415, 249, 250, 251, 19, 252, 48, 416, 417, 418, 23, 419, 420, 421, 153, 422, 143, 137, 144, 145, 423, 424, 425, 446, 447, 448, 27, 449, 62, 63, 64, 450, 451, 493, 494, 495, 496, 456, 457, 458, 459, 461, 462, 463, 464, 65, 465, 466, 467, 468, 469, 470, 497, 498, 499, 500, 501, 502, 503, 930, 931, 932, 933, 934, 935, 936, 937, 958, 959, 960, 961, 962, 963, 964, 965, 966, 967, 968, 969, 970, 971] (by decide +kernel) (by decide +kernel)
set_option maxRecDepth 20000 in
theorem gL_law_X7_reach : GoodIn wsL_law (wsV RL 65 RX7 yX7_reach wsX7_reach) := goodIn_app (goodIn_of _ (by decide +kernel)) ggL_law_X7_reach
set_option maxRecDepth 20000 in
theorem ggL_law_X8_reach : GoodIn wsL_law wsX8_reach := goodIn_r _ [507, 257, 258, 259, 5, 260, 202, 203, 204, 205, 206, 207, 86, 208, 209, 210, 211, 212, 213, 214, 215, 87, 216, 217, 218, 219, 85, 173, 174, 175, 220, 221, 222, 223, 224, 225, 226, 227, 228, 229, 230, 231, 89, 232, 233, 234, 235, 430, 431, 432, 433, 261, 262, 263, 264, 265, 266, 267, 268, 434, 435, 436, 437, 508, 509, 510, 511, 90, 269, 270, 271, 272, 273, 274, 275, 276, 277, 438, 439, 440, 441, 321, 322, 323, 479, 480, 481, 482, 483, 91, 484, 485, 486, 487, 488, 938, 939, 940, 941, 942, 943, 944, 945, 946, 947, 948, 949, 950, 951, 952, 953, 954, 955] (by decide +kernel) (by decide +kernel)
set_option maxRecDepth 20000 in
theorem gL_law_X8_reach : GoodIn wsL_law (wsV RL 68 RX8 yX8_reach wsX8_reach) := goodIn_app (goodIn_of _ (by decide +kernel)) ggL_law_X8_reach
set_option maxRecDepth 20000 in
theorem ggL_law_X7_meet : GoodIn wsL_law wsX7_meet := goodIn_r _ [515, 20, 408, 409, 410, 2, 411, 240, 241, 242, 243, 244, 245, 246, 247, 248, 104, 105, 106, 412, 413, 414, 415, 24, 249, 250, 251, 19, 252, 48, 416, 417, 418, 23, 419, 420, 421, 153, 422, 143, 137, 144, 145, 423, 424, 425, 516, 517, 518, 930, 931, 932, 933, 934, 935, 936, 937, 958, 959, 960, 961, 962, 963, 964, 965, 966, 967] (by decide +kernel) (by decide +kernel)
set_option maxRecDepth 20000 in
theorem gL_law_X7_meet : GoodIn wsL_law (wsV RL 69 RX7 yX7_meet wsX7_meet) := goodIn_app (goodIn_of _ (by decide +kernel)) ggL_law_X7_meet
set_option maxRecDepth 20000 in
theorem ggL_law_X8_meet : GoodIn wsL_law wsX8_meet := goodIn_r _ [522, 257, 258, 259, 5, 260, 202, 203, 204, 205, 206, 207, 86, 208, 209, 210, 211, 212, 213, 214, 215, 87, 216, 217, 218, 219, 85, 173, 174, 175, 220, 221, 222, 223, 224, 225, 226, 227, 228, 229, 230, 231, 89, 232, 233, 234, 235, 430, 431, 432, 433, 261, 262, 263, 264, 265, 266, 267, 268, 434, 435, 436, 437, 523, 524, 525, 526, 269, 270, 271, 272, 273, 274, 275, 276, 277, 438, 439, 440, 441, 321, 322, 323, 527, 528, 529, 355, 356, 357, 938, 939, 940, 941, 942, 943, 944, 945, 946, 947, 948, 949, 950, 951, 952, 953, 954, 955] (by decide +kernel) (by decide +kernel)
set_option maxRecDepth 20000 in
theorem gL_law_X8_meet : GoodIn wsL_law (wsV RL 73 RX8 yX8_meet wsX8_meet) := goodIn_app (goodIn_of _ (by decide +kernel)) ggL_law_X8_meet
set_option maxRecDepth 20000 in
theorem ggL_law_X7_seen : GoodIn wsL_law wsX7_seen := goodIn_r _ [533, 32, 534, 535, 536, 31, 537, 105, 2, 106, 538, 539, 540, 541, 542, 69, 70, 930, 931, 932, 933, 934, 935, 936, 937, 972, 973, 974, 975] (by decide +kernel) (by decide +kernel)
set_option maxRecDepth 20000 in
theorem gL_law_X7_seen : GoodIn wsL_law (wsV RL 74 RX7 yX7_seen wsX7_seen) := goodIn_app (goodIn_of _ (by decide +kernel)) ggL_law_X7_seen
set_option maxRecDepth 20000 in
theorem ggL_law_X8_seen : GoodIn wsL_law wsX8_seen := goodIn_r _ [546, 268, 547, 548, 92, 173, 174, 5, 175, 938, 939, 940, 941, 942, 943, 944, 945, 946, 947, 948, 949, 950, 951, 952, 953, 954, 955] (by decide +kernel) (by decide +kernel)
set_option maxRecDepth 20000 in
theorem gL_law_X8_seen : GoodIn wsL_law (wsV RL 77 RX8 yX8_seen wsX8_seen) := goodIn_app (goodIn_of _ (by decide +kernel)) ggL_law_X8_seen
set_option maxRecDepth 20000 in
theorem ggL_law_X7_forget : GoodIn wsL_law wsX7_forget := goodIn_r _ [552, 32, 534, 930, 931, 932, 933, 934, 935, 936, 937, 972, 973, 974, 975] (by decide +kernel) (by decide +kernel)
set_option maxRecDepth 20000 in
theorem gL_law_X7_forget : GoodIn wsL_law (wsV RL 78 RX7 yX7_forget wsX7_forget) := goodIn_app (goodIn_of _ (by decide +kernel)) ggL_law_X7_forget
set_option maxRecDepth 20000 in
theorem ggL_law_X8_forget : GoodIn wsL_law wsX8_forget := goodIn_r _ [556, 548, 938, 939, 940, 941, 942, 943, 944, 945, 946, 947, 948, 949, 950, 951, 952, 953, 954, 955] (by decide +kernel) (by decide +kernel)
set_option maxRecDepth 20000 in
theorem gL_law_X8_forget : GoodIn wsL_law (wsV RL 82 RX8 yX8_forget wsX8_forget) := goodIn_app (goodIn_of _ (by decide +kernel)) ggL_law_X8_forget
set_option maxRecDepth 20000 in
theorem ggL_law_X7_fits : GoodIn wsL_law wsX7_fits := goodIn_r _ [560, 32, 20, 104, 105, 2, 106, 561, 562, 563, 31, 564, 565, 566, 567, 568, 569, 542, 69, 70, 570, 311, 312, 19, 313, 49, 571, 572, 573, 574, 930, 931, 932, 933, 934, 935, 936, 937, 958, 959, 960, 961, 972, 973, 974, 975] (by decide +kernel) (by decide +kernel)
set_option maxRecDepth 20000 in
theorem gL_law_X7_fits : GoodIn wsL_law (wsV RL 83 RX7 yX7_fits wsX7_fits) := goodIn_app (goodIn_of _ (by decide +kernel)) ggL_law_X7_fits
set_option maxRecDepth 20000 in
theorem ggL_law_X8_fits : GoodIn wsL_law wsX8_fits := goodIn_r _ [578, 257, 258, 259, 5, 260, 202, 203, 204, 205, 206, 207, 86, 208, 209, 210, 211, 212, 213, 214, 215, 87, 216, 217, 218, 219, 85, 173, 174, 175, 220, 221, 222, 223, 224, 225, 226, 227, 228, 229, 230, 231, 89, 232, 233, 234, 235, 170, 171, 172, 579, 580, 581, 582, 583, 584, 585, 586, 548, 92, 269, 270, 271, 272, 273, 274, 275, 276, 277, 318, 319, 320, 321, 322, 323, 938, 939, 940, 941, 942, 943, 944, 945, 946, 947, 948, 949, 950, 951, 952, 953, 954, 955] (by decide +kernel) (by decide +kernel)
set_option maxRecDepth 20000 in
theorem gL_law_X8_fits : GoodIn wsL_law (wsV RL 86 RX8 yX8_fits wsX8_fits) := goodIn_app (goodIn_of _ (by decide +kernel)) ggL_law_X8_fits
set_option maxRecDepth 20000 in
theorem ggL_law_X7_look : GoodIn wsL_law wsX7_look := goodIn_r _ [590, 32, 20, 104, 105, 2, 106, 561, 562, 563, 31, 564, 565, 566, 567, 568, 569, 542, 69, 70, 570, 311, 312, 19, 313, 49, 591, 592, 593, 594, 71, 595, 596, 597, 598, 599, 600, 601, 602, 603, 337, 338, 339, 340, 341, 342, 930, 931, 932, 933, 934, 935, 936, 937, 958, 959, 960, 961, 972, 973, 974, 975] (by decide +kernel) (by decide +kernel)
set_option maxRecDepth 20000 in
theorem gL_law_X7_look : GoodIn wsL_law (wsV RL 87 RX7 yX7_look wsX7_look) := goodIn_app (goodIn_of _ (by decide +kernel)) ggL_law_X7_look
set_option maxRecDepth 20000 in
theorem ggL_law_X8_look : GoodIn wsL_law wsX8_look := goodIn_r _ [607, 257, 258, 259, 5, 260, 202, 203, 204, 205, 206, 207, 86, 208, 209, 210, 211, 212, 213, 214, 215, 87, 216, 217, 218, 219, 85, 173, 174, 175, 220, 221, 222, 223, 224, 225, 226, 227, 228, 229, 230, 231, 89, 232, 233, 234, 235, 170, 171, 172, 608, 609, 610, 611, 579, 580, 581, 582, 583, 584, 585, 586, 548, 92, 269, 270, 271, 272, 273, 274, 275, 276, 277, 318, 319, 320, 321, 322, 323, 612, 613, 614, 615, 93, 361, 362, 363, 938, 939, 940, 941, 942, 943, 944, 945, 946, 947, 948, 949, 950, 951, 952, 953, 954, 955] (by decide +kernel) (by decide +kernel)
set_option maxRecDepth 20000 in
theorem gL_law_X8_look : GoodIn wsL_law (wsV RL 90 RX8 yX8_look wsX8_look) := goodIn_app (goodIn_of _ (by decide +kernel)) ggL_law_X8_look
set_option maxRecDepth 20000 in
theorem ggL_law_X7_view : GoodIn wsL_law wsX7_view := goodIn_r _ [619, 24, 620, 621, 622, 23, 623, 153, 624, 424, 425, 105, 2, 106, 625, 626, 627, 628, 629, 630, 631, 632, 633, 634, 635, 498, 499, 500, 501, 502, 503, 930, 931, 932, 933, 934, 935, 936, 937, 962, 963, 964, 965, 966, 967] (by decide +kernel) (by decide +kernel)
set_option maxRecDepth 20000 in
theorem gL_law_X7_view : GoodIn wsL_law (wsV RL 91 RX7 yX7_view wsX7_view) := goodIn_app (goodIn_of _ (by decide +kernel)) ggL_law_X7_view
set_option maxRecDepth 20000 in
theorem ggL_law_X8_view : GoodIn wsL_law wsX8_view := goodIn_r _ [639, 257, 258, 259, 5, 260, 202, 203, 204, 205, 206, 207, 86, 208, 209, 210, 211, 212, 213, 214, 215, 87, 216, 217, 218, 219, 85, 173, 174, 175, 220, 221, 222, 223, 224, 225, 226, 227, 228, 229, 230, 231, 89, 232, 233, 234, 235, 640, 641, 642, 643, 434, 435, 436, 437, 644, 645, 646, 647, 648, 649, 650, 651, 652, 653, 654, 655, 488, 938, 939, 940, 941, 942, 943, 944, 945, 946, 947, 948, 949, 950, 951, 952, 953, 954, 955] (by decide +kernel) (by decide +kernel)
set_option maxRecDepth 20000 in
theorem gL_law_X8_view : GoodIn wsL_law (wsV RL 94 RX8 yX8_view wsX8_view) := goodIn_app (goodIn_of _ (by decide +kernel)) ggL_law_X8_view
set_option maxRecDepth 20000 in
theorem ggL_law_X7_sees : GoodIn wsL_law wsX7_sees := goodIn_r _ [659, 24, 620, 621, 622, 23, 623, 153, 624, 424, 425, 105, 2, 106, 625, 626, 627, 628, 629, 630, 631, 632, 633, 634, 423, 930, 931, 932, 933, 934, 935, 936, 937, 962, 963, 964, 965, 966, 967] (by decide +kernel) (by decide +kernel)
set_option maxRecDepth 20000 in
theorem gL_law_X7_sees : GoodIn wsL_law (wsV RL 95 RX7 yX7_sees wsX7_sees) := goodIn_app (goodIn_of _ (by decide +kernel)) ggL_law_X7_sees
set_option maxRecDepth 20000 in
theorem ggL_law_X8_sees : GoodIn wsL_law wsX8_sees := goodIn_r _ [663, 257, 258, 259, 5, 260, 202, 203, 204, 205, 206, 207, 86, 208, 209, 210, 211, 212, 213, 214, 215, 87, 216, 217, 218, 219, 85, 173, 174, 175, 220, 221, 222, 223, 224, 225, 226, 227, 228, 229, 230, 231, 89, 232, 233, 234, 235, 640, 641, 642, 643, 434, 435, 436, 437, 664, 665, 666, 667, 652, 653, 654, 655, 488, 938, 939, 940, 941, 942, 943, 944, 945, 946, 947, 948, 949, 950, 951, 952, 953, 954, 955] (by decide +kernel) (by decide +kernel)
set_option maxRecDepth 20000 in
theorem gL_law_X8_sees : GoodIn wsL_law (wsV RL 98 RX8 yX8_sees wsX8_sees) := goodIn_app (goodIn_of _ (by decide +kernel)) ggL_law_X8_sees
set_option maxRecDepth 20000 in
theorem ggL_law_X7_watchers : GoodIn wsL_law wsX7_watchers := goodIn_r _ [671, 24, 672, 673, 674, 104, 105, 2, 106, 675, 676, 677, 23, 678, 679, 57, 58, 153, 55, 680, 621, 622, 623, 624, 424, 425, 681, 626, 627, 628, 629, 630, 631, 632, 633, 634, 682, 683, 684, 685, 930, 931, 932, 933, 934, 935, 936, 937, 962, 963, 964, 965, 966, 967] (by decide +kernel) (by decide +kernel)
set_option maxRecDepth 20000 in
theorem gL_law_X7_watchers : GoodIn wsL_law (wsV RL 99 RX7 yX7_watchers wsX7_watchers) := goodIn_app (goodIn_of _ (by decide +kernel)) ggL_law_X7_watchers
set_option maxRecDepth 20000 in
theorem ggL_law_X8_watchers : GoodIn wsL_law wsX8_watchers := goodIn_r _ [689, 297, 257, 258, 259, 5, 260, 202, 203, 204, 205, 206, 207, 86, 208, 209, 210, 211, 212, 213, 214, 215, 87, 216, 217, 218, 219, 85, 173, 174, 175, 220, 221, 222, 223, 224, 225, 226, 227, 228, 229, 230, 231, 89, 232, 233, 234, 235, 690, 691, 692, 693, 94, 664, 665, 666, 667, 652, 653, 654, 655, 488, 938, 939, 940, 941, 942, 943, 944, 945, 946, 947, 948, 949, 950, 951, 952, 953, 954, 955] (by decide +kernel) (by decide +kernel)
set_option maxRecDepth 20000 in
theorem gL_law_X8_watchers : GoodIn wsL_law (wsV RL 102 RX8 yX8_watchers wsX8_watchers) := goodIn_app (goodIn_of _ (by decide +kernel)) ggL_law_X8_watchers
end
