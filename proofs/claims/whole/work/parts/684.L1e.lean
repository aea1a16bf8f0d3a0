section
theorem gp_X8_digest_0 : GoodIn wsL_law [Cond.code yX8_digest cX8_digest 5 (some .long)] := goodIn_r _ [922] (by decide +kernel) (by decide +kernel)
set_option maxRecDepth 20000 in
theorem gp_wsX8_digest_r1 : GoodIn wsL_law wsX8_digest_r1 := goodIn_r _ [923, 924, 207, 87, 925, 889, 890, 5, 891, 89, 86, 548, 783, 257, 258, 259, 260, 202, 203, 204, 205, 206, 208, 209] (by decide +kernel) (by decide +kernel)
set_option maxRecDepth 20000 in
theorem gp_wsX8_digest_r2 : GoodIn wsL_law wsX8_digest_r2 := goodIn_r _ [210, 211, 212, 213, 214, 215, 216, 217, 218, 219, 85, 173, 174, 175, 220, 221, 222, 223, 224, 225, 226, 227, 228, 229] (by decide +kernel) (by decide +kernel)
set_option maxRecDepth 20000 in
theorem gp_wsX8_digest_r3 : GoodIn wsL_law wsX8_digest_r3 := goodIn_r _ [230, 231, 232, 233, 234, 235, 361, 362, 363, 352, 353, 354, 355, 356, 357, 268, 275, 276, 277, 321, 322, 323, 298, 299] (by decide +kernel) (by decide +kernel)
set_option maxRecDepth 20000 in
theorem gp_wsX8_digest_r4 : GoodIn wsL_law wsX8_digest_r4 := goodIn_r _ [300, 386, 387, 388, 269, 270, 271, 272, 273, 274, 301, 302, 303, 304, 305, 318, 319, 320, 348, 349, 350, 351, 358, 359] (by decide +kernel) (by decide +kernel)
set_option maxRecDepth 20000 in
theorem gp_wsX8_digest_r5 : GoodIn wsL_law wsX8_digest_r5 := goodIn_r _ [360, 382, 383, 384, 385, 400, 401, 402, 403, 438, 439, 440, 441, 475, 476, 477, 478, 90, 479, 480, 481, 482, 483, 91] (by decide +kernel) (by decide +kernel)
set_option maxRecDepth 20000 in
theorem gp_wsX8_digest_r6 : GoodIn wsL_law wsX8_digest_r6 := goodIn_r _ [484, 485, 486, 487, 488, 508, 509, 510, 511, 579, 580, 581, 582, 583, 584, 585, 586, 92, 608, 609, 610, 611, 612, 613] (by decide +kernel) (by decide +kernel)
set_option maxRecDepth 20000 in
theorem gp_wsX8_digest_r7 : GoodIn wsL_law wsX8_digest_r7 := goodIn_r _ [614, 615, 93, 926, 637, 638, 639, 640, 641, 642, 643, 434, 435, 436, 437, 644, 645, 646, 647, 648, 649, 650, 651, 652] (by decide +kernel) (by decide +kernel)
set_option maxRecDepth 20000 in
theorem gp_wsX8_digest_r8 : GoodIn wsL_law wsX8_digest_r8 := goodIn_r _ [653, 654, 655, 927, 661, 662, 663, 664, 665, 666, 667, 690, 691, 692, 693, 94, 713, 714, 715, 716, 717, 718, 719, 720] (by decide +kernel) (by decide +kernel)
set_option maxRecDepth 20000 in
theorem gp_wsX8_digest_r9 : GoodIn wsL_law wsX8_digest_r9 := goodIn_r _ [928, 735, 736, 737, 738, 170, 171, 172, 739, 740, 741, 742, 743, 744, 745, 746, 747, 748, 749, 929, 520, 521, 522, 430] (by decide +kernel) (by decide +kernel)
set_option maxRecDepth 20000 in
theorem gp_wsX8_digest_r10 : GoodIn wsL_law wsX8_digest_r10 := goodIn_r _ [431, 432, 433, 261, 262, 263, 264, 265, 266, 267, 523, 524, 525, 526, 527, 528, 529] (by decide +kernel) (by decide +kernel)
theorem gp_X8_digest_u8 : GoodIn wsL_law wsX80 := goodIn_sub inlX8 (by decide +kernel)
theorem ggL_law_X8_digest : GoodIn wsL_law wsX8_digest := goodIn_c1 gp_X8_digest_0 (goodIn_app (goodIn_app gp_wsX8_digest_r1 (goodIn_app gp_wsX8_digest_r2 (goodIn_app gp_wsX8_digest_r3 (goodIn_app gp_wsX8_digest_r4 (goodIn_app gp_wsX8_digest_r5 (goodIn_app gp_wsX8_digest_r6 (goodIn_app gp_wsX8_digest_r7 (goodIn_app gp_wsX8_digest_r8 (goodIn_app gp_wsX8_digest_r9 (gp_wsX8_digest_r10)))))))))) gp_X8_digest_u8)
theorem gL_law_X8_digest : GoodIn wsL_law (wsV RL 149 RX8 yX8_digest wsX8_digest) := goodIn_app (goodIn_of _ (by decide +kernel)) ggL_law_X8_digest
end
