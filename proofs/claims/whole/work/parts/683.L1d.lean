section
theorem goodIn_c1 {big a : List Cond} {c : Cond} (hc : GoodIn big [c]) (ha : GoodIn big a) : GoodIn big (c :: a) := fun w h => (List.mem_cons.mp h).elim (fun e => hc w (by rw [e]; exact List.mem_singleton.mpr rfl)) (ha w)
theorem gp_X7_digest_0 : GoodIn wsL_law [Cond.code yX7_digest cX7_digest 4 (some .long)] := goodIn_r _ [895] (by decide +kernel) (by decide +kernel)
set_option maxRecDepth 20000 in
theorem gp_wsX7_digest_r1 : GoodIn wsL_law wsX7_digest_r1 := goodIn_r _ [896, 897, 20, 248, 898, 869, 870, 2, 871, 24, 872, 15, 99, 16, 32, 534, 37, 635, 498, 499, 500, 501, 502, 503] (by decide +kernel) (by decide +kernel)
set_option maxRecDepth 20000 in
theorem gp_wsX7_digest_r2 : GoodIn wsL_law wsX7_digest_r2 := goodIn_r _ [873, 874, 875, 19, 876, 120, 372, 250, 251, 252, 48, 877, 337, 338, 339, 340, 341, 342, 878, 879, 880, 881, 882, 329] (by decide +kernel) (by decide +kernel)
set_option maxRecDepth 20000 in
theorem gp_wsX7_digest_r3 : GoodIn wsL_law wsX7_digest_r3 := goodIn_r _ [137, 330, 331, 332, 883, 884, 885, 886, 887, 285, 286, 142, 143, 144, 145, 373, 374, 375, 376, 288, 289, 290, 291, 377] (by decide +kernel) (by decide +kernel)
set_option maxRecDepth 20000 in
theorem gp_wsX7_digest_r4 : GoodIn wsL_law wsX7_digest_r4 := goodIn_r _ [147, 148, 899, 193, 194, 195, 196, 197, 900, 901, 902, 903, 904, 237, 238, 239, 240, 241, 242, 243, 244, 245, 246, 247] (by decide +kernel) (by decide +kernel)
set_option maxRecDepth 20000 in
theorem gp_wsX7_digest_r5 : GoodIn wsL_law wsX7_digest_r5 := goodIn_r _ [104, 105, 106, 249, 905, 307, 308, 309, 310, 311, 312, 313, 49, 906, 325, 326, 327, 328, 333, 334, 335, 336, 343, 907] (by decide +kernel) (by decide +kernel)
set_option maxRecDepth 20000 in
theorem gp_wsX7_digest_r6 : GoodIn wsL_law wsX7_digest_r6 := goodIn_r _ [365, 366, 367, 284, 368, 369, 370, 371, 908, 390, 391, 392, 393, 394, 395, 909, 405, 406, 407, 408, 409, 410, 411, 412] (by decide +kernel) (by decide +kernel)
set_option maxRecDepth 20000 in
theorem gp_wsX7_digest_r7 : GoodIn wsL_law wsX7_digest_r7 := goodIn_r _ [413, 414, 415, 416, 417, 418, 23, 419, 420, 421, 153, 422, 423, 424, 425, 910, 443, 444, 445, 28, 446, 447, 448, 27] (by decide +kernel) (by decide +kernel)
set_option maxRecDepth 20000 in
theorem gp_wsX7_digest_r8 : GoodIn wsL_law wsX7_digest_r8 := goodIn_r _ [449, 62, 63, 64, 450, 451, 452, 453, 454, 455, 456, 457, 458, 459, 460, 461, 462, 463, 464, 65, 465, 466, 467, 468] (by decide +kernel) (by decide +kernel)
set_option maxRecDepth 20000 in
theorem gp_wsX7_digest_r9 : GoodIn wsL_law wsX7_digest_r9 := goodIn_r _ [469, 470, 911, 490, 491, 492, 493, 494, 495, 496, 497, 912, 558, 559, 560, 561, 562, 563, 31, 564, 565, 566, 567, 568] (by decide +kernel) (by decide +kernel)
set_option maxRecDepth 20000 in
theorem gp_wsX7_digest_r10 : GoodIn wsL_law wsX7_digest_r10 := goodIn_r _ [569, 542, 69, 70, 570, 571, 572, 573, 574, 913, 588, 589, 590, 591, 592, 593, 594, 71, 595, 596, 597, 598, 599, 600] (by decide +kernel) (by decide +kernel)
set_option maxRecDepth 20000 in
theorem gp_wsX7_digest_r11 : GoodIn wsL_law wsX7_digest_r11 := goodIn_r _ [601, 602, 603, 853, 617, 618, 619, 620, 621, 622, 623, 624, 625, 626, 627, 628, 629, 630, 631, 632, 633, 634, 914, 657] (by decide +kernel) (by decide +kernel)
set_option maxRecDepth 20000 in
theorem gp_wsX7_digest_r12 : GoodIn wsL_law wsX7_digest_r12 := goodIn_r _ [658, 659, 915, 669, 670, 671, 672, 673, 674, 675, 676, 677, 678, 679, 57, 58, 55, 680, 681, 682, 683, 684, 685, 916] (by decide +kernel) (by decide +kernel)
set_option maxRecDepth 20000 in
theorem gp_wsX7_digest_r13 : GoodIn wsL_law wsX7_digest_r13 := goodIn_r _ [695, 696, 697, 698, 699, 700, 701, 702, 703, 704, 917, 722, 723, 724, 725, 726, 727, 728, 729, 730, 731, 732, 733, 918] (by decide +kernel) (by decide +kernel)
set_option maxRecDepth 20000 in
theorem gp_wsX7_digest_r14 : GoodIn wsL_law wsX7_digest_r14 := goodIn_r _ [513, 514, 515, 516, 517, 518] (by decide +kernel) (by decide +kernel)
theorem gp_X7_digest_u7 : GoodIn wsL_law wsX70 := goodIn_sub inlX7 (by decide +kernel)
theorem gp_X7_digest_u3 : GoodIn wsL_law wsX30 := goodIn_sub inlX3 (by decide +kernel)
theorem gp_X7_digest_u1 : GoodIn wsL_law wsX10 := goodIn_sub inlX1 (by decide +kernel)
theorem gp_X7_digest_u5 : GoodIn wsL_law wsX50 := goodIn_sub inlX5 (by decide +kernel)
theorem gp_X7_digest_u0 : GoodIn wsL_law wsX00 := goodIn_sub inlX0 (by decide +kernel)
theorem gp_X7_digest_u6 : GoodIn wsL_law wsX60 := goodIn_sub inlX6 (by decide +kernel)
theorem ggL_law_X7_digest : GoodIn wsL_law wsX7_digest := goodIn_c1 gp_X7_digest_0 (goodIn_app (goodIn_app (goodIn_app (goodIn_app (goodIn_app (goodIn_app (goodIn_app gp_wsX7_digest_r1 (goodIn_app gp_wsX7_digest_r2 (goodIn_app gp_wsX7_digest_r3 (goodIn_app gp_wsX7_digest_r4 (goodIn_app gp_wsX7_digest_r5 (goodIn_app gp_wsX7_digest_r6 (goodIn_app gp_wsX7_digest_r7 (goodIn_app gp_wsX7_digest_r8 (goodIn_app gp_wsX7_digest_r9 (goodIn_app gp_wsX7_digest_r10 (goodIn_app gp_wsX7_digest_r11 (goodIn_app gp_wsX7_digest_r12 (goodIn_app gp_wsX7_digest_r13 (gp_wsX7_digest_r14)))))))))))))) gp_X7_digest_u7) gp_X7_digest_u3) gp_X7_digest_u1) gp_X7_digest_u5) gp_X7_digest_u0) gp_X7_digest_u6)
theorem gL_law_X7_digest : GoodIn wsL_law (wsV RL 145 RX7 yX7_digest wsX7_digest) := goodIn_app (goodIn_of _ (by decide +kernel)) ggL_law_X7_digest
end
