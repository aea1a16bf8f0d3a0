section
theorem wlu_0 : ∀ w ∈ wsX00, w ∈ lw_tbl := by decide +kernel
theorem wlu_1 : ∀ w ∈ wsX10, w ∈ lw_tbl := by decide +kernel
theorem wlu_3 : ∀ w ∈ wsX30, w ∈ lw_tbl := by decide +kernel
theorem wlu_4 : ∀ w ∈ wsX40, w ∈ lw_tbl := by decide +kernel
theorem wlu_5 : ∀ w ∈ wsX50, w ∈ lw_tbl := by decide +kernel
theorem wlu_6 : ∀ w ∈ wsX60, w ∈ lw_tbl := by decide +kernel
theorem wlu_7 : ∀ w ∈ wsX70, w ∈ lw_tbl := by decide +kernel
theorem wlu_8 : ∀ w ∈ wsX80, w ∈ lw_tbl := by decide +kernel
set_option maxRecDepth 20000 in
theorem wsL_law_all : ∀ w ∈ wsL_law, w ∈ lw_tbl := List.forall_mem_append.mpr ⟨List.forall_mem_append.mpr ⟨List.forall_mem_append.mpr ⟨List.forall_mem_append.mpr ⟨List.forall_mem_append.mpr ⟨List.forall_mem_append.mpr ⟨List.forall_mem_append.mpr ⟨List.forall_mem_append.mpr ⟨List.forall_mem_append.mpr ⟨List.forall_mem_append.mpr ⟨wli_1, List.forall_mem_append.mpr ⟨wli_2, List.forall_mem_append.mpr ⟨wli_3, List.forall_mem_append.mpr ⟨wli_4, List.forall_mem_append.mpr ⟨wli_5, List.forall_mem_append.mpr ⟨wli_6, List.forall_mem_append.mpr ⟨wli_7, List.forall_mem_append.mpr ⟨wli_8, List.forall_mem_append.mpr ⟨wli_9, List.forall_mem_append.mpr ⟨wli_10, List.forall_mem_append.mpr ⟨wli_11, List.forall_mem_append.mpr ⟨wli_12, List.forall_mem_append.mpr ⟨wli_13, List.forall_mem_append.mpr ⟨wli_14, List.forall_mem_append.mpr ⟨wli_15, List.forall_mem_append.mpr ⟨wli_16, List.forall_mem_append.mpr ⟨wli_17, List.forall_mem_append.mpr ⟨wli_18, List.forall_mem_append.mpr ⟨wli_19, List.forall_mem_append.mpr ⟨wli_20, List.forall_mem_append.mpr ⟨wli_21, List.forall_mem_append.mpr ⟨wli_22, List.forall_mem_append.mpr ⟨wli_23, List.forall_mem_append.mpr ⟨wli_24, List.forall_mem_append.mpr ⟨wli_25, List.forall_mem_append.mpr ⟨wli_26, List.forall_mem_append.mpr ⟨wli_27, List.forall_mem_append.mpr ⟨wli_28, List.forall_mem_append.mpr ⟨wli_29, List.forall_mem_append.mpr ⟨wli_30, List.forall_mem_append.mpr ⟨wli_31, List.forall_mem_append.mpr ⟨wli_32, List.forall_mem_append.mpr ⟨wli_33, List.forall_mem_append.mpr ⟨wli_34, List.forall_mem_append.mpr ⟨wli_35, List.forall_mem_append.mpr ⟨wli_36, List.forall_mem_append.mpr ⟨wli_37, List.forall_mem_append.mpr ⟨wli_38, wli_39⟩⟩⟩⟩⟩⟩⟩⟩⟩⟩⟩⟩⟩⟩⟩⟩⟩⟩⟩⟩⟩⟩⟩⟩⟩⟩⟩⟩⟩⟩⟩⟩⟩⟩⟩⟩⟩⟩, wlu_7⟩, wlu_8⟩, wlu_5⟩, wlu_3⟩, wlu_1⟩, wlu_6⟩, wlu_0⟩, wlu_4⟩, fun _ h => absurd h List.not_mem_nil⟩
set_option maxRecDepth 20000 in
theorem ggL_law_X7_init : GoodIn wsL_law wsX7_init := goodIn_r _ [8, 9, 10, 11, 12, 13, 14, 15, 16, 17, 18, 19, 20, 21, 22, 23, 24, 25, 26, 27, 28, 29, 30, 31, 32, 33, 34, 35, 36, 37, 38, 39, 40, 41, 42, 43, 44, 45, 46, 47, 48, 49, 50, 51, 52, 53, 54, 55, 56, 57, 58, 59, 60, 61, 62, 63, 64, 65, 66, 67, 68, 69, 70, 71, 72, 73, 74, 75, 76, 956, 957, 930, 931, 932, 933, 934, 935, 936, 937, 958, 959, 960, 961, 962, 963, 964, 965, 966, 967, 968, 969, 970, 971, 972, 973, 974, 975, 976, 977, 978, 979] (by decide +kernel) (by decide +kernel)
set_option maxRecDepth 20000 in
theorem gL_law_X7_init : GoodIn wsL_law (wsX7_init) := ggL_law_X7_init
set_option maxRecDepth 20000 in
theorem ggL_law_X8_init : GoodIn wsL_law wsX8_init := goodIn_r _ [79, 80, 10, 11, 42, 81, 82, 83, 84, 85, 86, 87, 88, 89, 90, 91, 92, 93, 54, 94, 938, 939, 940, 941, 942, 943, 944, 945, 946, 947, 948, 949, 950, 951, 952, 953, 954, 955] (by decide +kernel) (by decide +kernel)
set_option maxRecDepth 20000 in
theorem gL_law_X8_init : GoodIn wsL_law (wsX8_init) := ggL_law_X8_init
set_option maxRecDepth 20000 in
theorem ggL_law_X7_type : GoodIn wsL_law wsX7_type := goodIn_r _ [98, 99, 100, 101, 102, 2, 103, 15, 16, 104, 105, 106, 107, 108, 109, 14, 110, 44, 43, 111, 112, 113, 114, 20, 24, 115, 116, 117, 19, 118, 50, 119, 120, 121, 122, 123, 124, 125, 126, 127, 128, 129, 130, 131, 132, 133, 134, 48, 49, 135, 136, 137, 138, 139, 140, 141, 142, 143, 144, 145, 146, 147, 148, 149, 150, 151, 23, 152, 56, 153, 154, 155, 156, 157, 158, 159, 160, 161, 162, 163, 164, 956, 957, 930, 931, 932, 933, 934, 935, 936, 937, 958, 959, 960, 961, 962, 963, 964, 965, 966, 967] (by decide +kernel) (by decide +kernel)
set_option maxRecDepth 20000 in
theorem gL_law_X7_type : GoodIn wsL_law (wsV RL 13 RX7 yX7_type wsX7_type) := goodIn_app (goodIn_of _ (by decide +kernel)) ggL_law_X7_type
set_option maxRecDepth 20000 in
theorem ggL_law_X8_type : GoodIn wsL_law wsX8_type := goodIn_r _ [168, 169, 86, 85, 170, 171, 5, 172, 173, 174, 175, 938, 939, 940, 941, 942, 943, 944, 945, 946, 947, 948, 949, 950, 951, 952, 953, 954, 955] (by decide +kernel) (by decide +kernel)
set_option maxRecDepth 20000 in
theorem gL_law_X8_type : GoodIn wsL_law (wsV RL 17 RX8 yX8_type wsX8_type) := goodIn_app (goodIn_of _ (by decide +kernel)) ggL_law_X8_type
set_option maxRecDepth 20000 in
theorem ggL_law_X7_wipe : GoodIn wsL_law wsX7_wipe := goodIn_r _ [179, 99, 100, 101, 102, 2, 103, 15, 16, 111, 112, 113, 114, 20, 24, 115, 116, 117, 19, 118, 50, 119, 120, 121, 122, 123, 124, 125, 126, 14, 127, 44, 43, 128, 129, 130, 131, 132, 133, 134, 48, 49, 135, 136, 137, 138, 139, 140, 141, 142, 143, 144, 145, 146, 147, 148, 149, 150, 151, 23, 152, 56, 153, 154, 155, 156, 157, 158, 159, 160, 161, 162, 163, 164, 956, 957, 930, 931, 932, 933, 934, 935, 936, 937, 958, 959, 960, 961, 962, 963, 964, 965, 966, 967] (by decide +kernel) (by decide +kernel)
set_option maxRecDepth 20000 in
theorem gL_law_X7_wipe : GoodIn wsL_law (wsV RL 18 RX7 yX7_wipe wsX7_wipe) := goodIn_app (goodIn_of _ (by decide +kernel)) ggL_law_X7_wipe
set_option maxRecDepth 20000 in
theorem ggL_law_X8_wipe : GoodIn wsL_law wsX8_wipe := goodIn_r _ [183, 86, 170, 171, 5, 172, 173, 174, 175, 938, 939, 940, 941, 942, 943, 944, 945, 946, 947, 948, 949, 950, 951, 952, 953, 954, 955] (by decide +kernel) (by decide +kernel)
set_option maxRecDepth 20000 in
theorem gL_law_X8_wipe : GoodIn wsL_law (wsV RL 22 RX8 yX8_wipe wsX8_wipe) := goodIn_app (goodIn_of _ (by decide +kernel)) ggL_law_X8_wipe
set_option maxRecDepth 20000 in
theorem ggL_law_X7_undo : GoodIn wsL_law wsX7_undo := goodIn_r _ [187, 99, 100, 101, 102, 2, 103, 15, 16, 111, 112, 113, 114, 20, 24, 115, 116, 117, 19, 118, 50, 119, 120, 121, 122, 123, 124, 125, 126, 14, 127, 44, 43, 128, 129, 130, 131, 132, 133, 134, 48, 49, 135, 136, 137, 138, 139, 140, 141, 142, 143, 144, 145, 146, 147, 148, 149, 150, 151, 23, 152, 56, 153, 154, 155, 156, 157, 158, 159, 160, 161, 162, 163, 164, 956, 957, 930, 931, 932, 933, 934, 935, 936, 937, 958, 959, 960, 961, 962, 963, 964, 965, 966, 967] (by decide +kernel) (by decide +kernel)
set_option maxRecDepth 20000 in
theorem gL_law_X7_undo : GoodIn wsL_law (wsV RL 23 RX7 yX7_undo wsX7_undo) := goodIn_app (goodIn_of _ (by decide +kernel)) ggL_law_X7_undo
set_option maxRecDepth 20000 in
theorem ggL_law_X8_undo : GoodIn wsL_law wsX8_undo := goodIn_r _ [191, 86, 170, 171, 5, 172, 173, 174, 175, 938, 939, 940, 941, 942, 943, 944, 945, 946, 947, 948, 949, 950, 951, 952, 953, 954, 955] (by decide +kernel) (by decide +kernel)
set_option maxRecDepth 20000 in
theorem gL_law_X8_undo : GoodIn wsL_law (wsV RL 26 RX8 yX8_undo wsX8_undo) := goodIn_app (goodIn_of _ (by decide +kernel)) ggL_law_X8_undo
set_option maxRecDepth 20000 in
theorem ggL_law_X7_fault : GoodIn wsL_law wsX7_fault := goodIn_r _ [195, 20, 196, 24, 197, 930, 931, 932, 933, 934, 935, 936, 937, 958, 959, 960, 961, 962, 963, 964, 965, 966, 967] (by decide +kernel) (by decide +kernel)
set_option maxRecDepth 20000 in
theorem gL_law_X7_fault : GoodIn wsL_law (wsV RL 27 RX7 yX7_fault wsX7_fault) := goodIn_app (goodIn_of _ (by decide +kernel)) ggL_law_X7_fault
set_option maxRecDepth 20000 in
theorem ggL_law_X8_fault : GoodIn wsL_law wsX8_fault := goodIn_r _ [201, 170, 171, 5, 172, 173, 174, 175, 202, 203, 204, 205, 206, 207, 86, 208, 209, 210, 211, 212, 213, 214, 215, 87, 216, 217, 218, 219, 85, 220, 221, 222, 223, 224, 225, 226, 227, 228, 229, 230, 231, 89, 232, 233, 234, 235, 938, 939, 940, 941, 942, 943, 944, 945, 946, 947, 948, 949, 950, 951, 952, 953, 954, 955] (by decide +kernel) (by decide +kernel)
set_option maxRecDepth 20000 in
theorem gL_law_X8_fault : GoodIn wsL_law (wsV RL 30 RX8 yX8_fault wsX8_fault) := goodIn_app (goodIn_of _ (by decide +kernel)) ggL_law_X8_fault
set_option maxRecDepth 20000 in
theorem ggL_law_X7_shape : GoodIn wsL_law wsX7_shape := goodIn_r _ [239, 20, 240, 241, 242, 2, 243, 244, 245, 246, 247, 248, 104, 105, 106, 249, 250, 251, 19, 252, 48, 930, 931, 932, 933, 934, 935, 936, 937, 958, 959, 960, 961] (by decide +kernel) (by decide +kernel)
set_option maxRecDepth 20000 in
theorem gL_law_X7_shape : GoodIn wsL_law (wsV RL 31 RX7 yX7_shape wsX7_shape) := goodIn_app (goodIn_of _ (by decide +kernel)) ggL_law_X7_shape
set_option maxRecDepth 20000 in
theorem ggL_law_X8_shape : GoodIn wsL_law wsX8_shape := goodIn_r _ [256, 87, 257, 258, 259, 5, 260, 202, 203, 204, 205, 206, 207, 86, 208, 209, 210, 211, 212, 213, 214, 215, 216, 217, 218, 219, 85, 173, 174, 175, 220, 221, 222, 223, 224, 225, 226, 227, 228, 229, 230, 231, 89, 232, 233, 234, 235, 261, 262, 263, 264, 265, 266, 267, 268, 269, 270, 271, 272, 273, 274, 275, 276, 277, 938, 939, 940, 941, 942, 943, 944, 945, 946, 947, 948, 949, 950, 951, 952, 953, 954, 955] (by decide +kernel) (by decide +kernel)
set_option maxRecDepth 20000 in
theorem gL_law_X8_shape : GoodIn wsL_law (wsV RL 34 RX8 yX8_shape wsX8_shape) := goodIn_app (goodIn_of _ (by decide +kernel)) ggL_law_X8_shape
set_option maxRecDepth 20000 in
theorem ggL_law_X7_made : GoodIn wsL_law wsX7_made := goodIn_r _ [281, 282, 283, 147, 137, 148, 142, 143, 144, 145, 284, 285, 286, 287, 288, 289, 290, 291] (by decide +kernel) (by decide +kernel)
set_option maxRecDepth 20000 in
theorem gL_law_X7_made : GoodIn wsL_law (wsV RL 35 RX7 yX7_made wsX7_made) := goodIn_app (goodIn_of _ (by decide +kernel)) ggL_law_X7_made
set_option maxRecDepth 20000 in
theorem ggL_law_X8_made : GoodIn wsL_law wsX8_made := goodIn_r _ [295, 296, 297, 173, 174, 5, 175, 272, 273, 274, 275, 276, 277, 298, 299, 300, 301, 302, 303, 304, 305] (by decide +kernel) (by decide +kernel)
set_option maxRecDepth 20000 in
theorem gL_law_X8_made : GoodIn wsL_law (wsV RL 38 RX8 yX8_made wsX8_made) := goodIn_app (goodIn_of _ (by decide +kernel)) ggL_law_X8_made
set_option maxRecDepth 20000 in
theorem ggL_law_X7_sight : GoodIn wsL_law wsX7_sight := goodIn_r _ [309, 20, 240, 241, 242, 2, 243, 244, 245, 246, 247, 248, 104, 105, 106, 310, 311, 312, 19, 313, 49, 930, 931, 932, 933, 934, 935, 936, 937, 958, 959, 960, 961] (by decide +kernel) (by decide +kernel)
set_option maxRecDepth 20000 in
theorem gL_law_X7_sight : GoodIn wsL_law (wsV RL 39 RX7 yX7_sight wsX7_sight) := goodIn_app (goodIn_of _ (by decide +kernel)) ggL_law_X7_sight
set_option maxRecDepth 20000 in
theorem ggL_law_X8_sight : GoodIn wsL_law wsX8_sight := goodIn_r _ [317, 268, 87, 257, 258, 259, 5, 260, 202, 203, 204, 205, 206, 207, 86, 208, 209, 210, 211, 212, 213, 214, 215, 216, 217, 218, 219, 85, 173, 174, 175, 220, 221, 222, 223, 224, 225, 226, 227, 228, 229, 230, 231, 89, 232, 233, 234, 235, 261, 262, 263, 264, 265, 266, 267, 269, 270, 271, 272, 273, 274, 275, 276, 277, 318, 319, 320, 321, 322, 323, 938, 939, 940, 941, 942, 943, 944, 945, 946, 947, 948, 949, 950, 951, 952, 953, 954, 955] (by decide +kernel) (by decide +kernel)
set_option maxRecDepth 20000 in
theorem gL_law_X8_sight : GoodIn wsL_law (wsV RL 43 RX8 yX8_sight wsX8_sight) := goodIn_app (goodIn_of _ (by decide +kernel)) ggL_law_X8_sight
set_option maxRecDepth 20000 in
theorem ggL_law_X7_form : GoodIn wsL_law wsX7_form := goodIn_r _ [327, 20, 244, 245, 246, 2, 247, 248, 104, 105, 106, 249, 250, 251, 19, 252, 48, 328, 329, 137, 330, 331, 332, 333, 334, 335, 336, 337, 338, 339, 340, 341, 342, 343, 930, 931, 932, 933, 934, 935, 936, 937, 958, 959, 960, 961] (by decide +kernel) (by decide +kernel)
set_option maxRecDepth 20000 in
theorem gL_law_X7_form : GoodIn wsL_law (wsV RL 44 RX7 yX7_form wsX7_form) := goodIn_app (goodIn_of _ (by decide +kernel)) ggL_law_X7_form
set_option maxRecDepth 20000 in
theorem ggL_law_X8_form : GoodIn wsL_law wsX8_form := goodIn_r _ [347, 297, 257, 258, 259, 5, 260, 202, 203, 204, 205, 206, 207, 86, 208, 209, 210, 211, 212, 213, 214, 215, 87, 216, 217, 218, 219, 85, 173, 174, 175, 220, 221, 222, 223, 224, 225, 226, 227, 228, 229, 230, 231, 89, 232, 233, 234, 235, 261, 262, 263, 264, 348, 349, 350, 351, 352, 353, 354, 355, 356, 357, 268, 275, 276, 277, 321, 322, 323, 358, 359, 360, 361, 362, 363, 938, 939, 940, 941, 942, 943, 944, 945, 946, 947, 948, 949, 950, 951, 952, 953, 954, 955] (by decide +kernel) (by decide +kernel)
set_option maxRecDepth 20000 in
theorem gL_law_X8_form : GoodIn wsL_law (wsV RL 47 RX8 yX8_form wsX8_form) := goodIn_app (goodIn_of _ (by decide +kernel)) ggL_law_X8_form
set_option maxRecDepth 20000 in
theorem ggL_law_X7_kin : GoodIn wsL_law wsX7_kin := goodIn_r _ [367, 20, 244, 245, 246, 2, 247, 248, 104, 105, 106, 249, 250, 251, 19, 252, 48, 284, 285, 137, 286, 142, 143, 144, 145, 368, 369, 370, 371, 120, 372, 373, 374, 375, 376, 288, 289, 290, 291, 377, 147, 148, 930, 931, 932, 933, 934, 935, 936, 937, 958, 959, 960, 961] (by decide +kernel) (by decide +kernel)
set_option maxRecDepth 20000 in
theorem gL_law_X7_kin : GoodIn wsL_law (wsV RL 48 RX7 yX7_kin wsX7_kin) := goodIn_app (goodIn_of _ (by decide +kernel)) ggL_law_X7_kin
set_option maxRecDepth 20000 in
theorem ggL_law_X8_kin : GoodIn wsL_law wsX8_kin := goodIn_r _ [381, 257, 258, 259, 5, 260, 202, 203, 204, 205, 206, 207, 86, 208, 209, 210, 211, 212, 213, 214, 215, 87, 216, 217, 218, 219, 85, 173, 174, 175, 220, 221, 222, 223, 224, 225, 226, 227, 228, 229, 230, 231, 89, 232, 233, 234, 235, 261, 262, 263, 264, 170, 171, 172, 382, 383, 384, 385, 298, 299, 300, 275, 276, 277, 386, 387, 388, 269, 270, 271, 272, 273, 274, 301, 302, 303, 304, 305, 938, 939, 940, 941, 942, 943, 944, 945, 946, 947, 948, 949, 950, 951, 952, 953, 954, 955] (by decide +kernel) (by decide +kernel)
set_option maxRecDepth 20000 in
theorem gL_law_X8_kin : GoodIn wsL_law (wsV RL 51 RX8 yX8_kin wsX8_kin) := goodIn_app (goodIn_of _ (by decide +kernel)) ggL_law_X8_kin
set_option maxRecDepth 20000 in
theorem ggL_law_X7_self : GoodIn wsL_law wsX7_self := goodIn_r _ [392, 20, 244, 245, 246, 2, 247, 248, 104, 105, 106, 249, 250, 251, 19, 252, 48, 393, 394, 137, 395, 376, 288, 289, 290, 291, 377, 147, 148, 142, 143, 144, 145, 930, 931, 932, 933, 934, 935, 936, 937, 958, 959, 960, 961] (by decide +kernel) (by decide +kernel)
set_option maxRecDepth 20000 in
theorem gL_law_X7_self : GoodIn wsL_law (wsV RL 52 RX7 yX7_self wsX7_self) := goodIn_app (goodIn_of _ (by decide +kernel)) ggL_law_X7_self
set_option maxRecDepth 20000 in
theorem ggL_law_X8_self : GoodIn wsL_law wsX8_self := goodIn_r _ [399, 257, 258, 259, 5, 260, 202, 203, 204, 205, 206, 207, 86, 208, 209, 210, 211, 212, 213, 214, 215, 87, 216, 217, 218, 219, 85, 173, 174, 175, 220, 221, 222, 223, 224, 225, 226, 227, 228, 229, 230, 231, 89, 232, 233, 234, 235, 261, 262, 263, 264, 400, 401, 402, 403, 269, 270, 271, 272, 273, 274, 275, 276, 277, 301, 302, 303, 304, 305, 938, 939, 940, 941, 942, 943, 944, 945, 946, 947, 948, 949, 950, 951, 952, 953, 954, 955] (by decide +kernel) (by decide +kernel)
set_option maxRecDepth 20000 in
theorem gL_law_X8_self : GoodIn wsL_law (wsV RL 55 RX8 yX8_self wsX8_self) := goodIn_app (goodIn_of _ (by decide +kernel)) ggL_law_X8_self
set_option maxRecDepth 20000 in
theorem ggL_law_X7_stands : GoodIn wsL_law wsX7_stands := goodIn_r _ [407, 408, 409, 410, 2, 411, 240, 241, 242, 243, 244, 245, 246, 247, 20, 248, 104, 105, 106, 412, 413, 414, 415, 24, 249, 250, 251, 19, 252, 48, 416, 417, 418, 23, 419, 420, 421, 153, 422, 143, 137, 144, 145, 423, 424, 425, 930, 931, 932, 933, 934, 935, 936, 937, 958, 959, 960, 961, 962, 963, 964, 965, 966, 967] (by decide +kernel) (by decide +kernel)
set_option maxRecDepth 20000 in
theorem gL_law_X7_stands : GoodIn wsL_law (wsV RL 56 RX7 yX7_stands wsX7_stands) := goodIn_app (goodIn_of _ (by decide +kernel)) ggL_law_X7_stands
set_option maxRecDepth 20000 in
theorem ggL_law_X8_stands : GoodIn wsL_law wsX8_stands := goodIn_r _ [429, 87, 257, 258, 259, 5, 260, 202, 203, 204, 205, 206, 207, 86, 208, 209, 210, 211, 212, 213, 214, 215, 216, 217, 218, 219, 85, 173, 174, 175, 220, 221, 222, 223, 224, 225, 226, 227, 228, 229, 230, 231, 89, 232, 233, 234, 235, 430, 431, 432, 433, 261, 262, 263, 264, 265, 266, 267, 268, 434, 435, 436, 437, 269, 270, 271, 272, 273, 274, 275, 276, 277, 438, 439, 440, 441, 321, 322, 323, 938, 939, 940, 941, 942, 943, 944, 945, 946, 947, 948, 949, 950, 951, 952, 953, 954, 955] (by decide +kernel) (by decide +kernel)
set_option maxRecDepth 20000 in
theorem gL_law_X8_stands : GoodIn wsL_law (wsV RL 59 RX8 yX8_stands wsX8_stands) := goodIn_app (goodIn_of _ (by decide +kernel)) ggL_law_X8_stands
set_option maxRecDepth 20000 in
theorem ggL_law_X7_through : GoodIn wsL_law wsX7_through := goodIn_r _ [445, 28, 20, 24, 408, 409, 410, 2, 411, 240, 241, 242, 243, 244, 245, 246, 247, 248, 104, 105, 106, 412, 413, 414, 415, 249, 250, 251, 19, 252, 48, 416, 417, 418, 23, 419, 420, 421, 153, 422, 143, 137, 144, 145, 423, 424, 425, 446, 447, 448, 27, 449, 62, 63, 64, 450, 451, 452, 453, 454, 455, 456, 457, 458, 459, 460, 461, 462, 463, 464, 65, 465, 466, 467, 468, 469, 470, 930, 931, 932, 933, 934, 935, 936, 937, 958, 959, 960, 961, 962, 963, 964, 965, 966, 967, 968, 969, 970, 971] (by decide +kernel) (by decide +kernel)
set_option maxRecDepth 20000 in
theorem gL_law_X7_through : GoodIn wsL_law (wsV RL 60 RX7 yX7_through wsX7_through) := goodIn_app (goodIn_of _ (by decide +kernel)) ggL_law_X7_through
set_option maxRecDepth 20000 in
theorem ggL_law_X8_through : GoodIn wsL_law wsX8_through := goodIn_r _ [474, 257, 258, 259, 5, 260, 202, 203, 204, 205, 206, 207, 86, 208, 209, 210, 211, 212, 213, 214, 215, 87, 216, 217, 218, 219, 85, 173, 174, 175, 220, 221, 222, 223, 224, 225, 226, 227, 228, 229, 230, 231, 89, 232, 233, 234, 235, 430, 431, 432, 433, 261, 262, 263, 264, 265, 266, 267, 268, 434, 435, 436, 437, 475, 476, 477, 478, 90, 269, 270, 271, 272, 273, 274, 275, 276, 277, 438, 439, 440, 441, 321, 322, 323, 479, 480, 481, 482, 483, 91, 484, 485, 486, 487, 488, 938, 939, 940, 941, 942, 943, 944, 945, 946, 947, 948, 949, 950, 951, 952, 953, 954, 955] (by decide +kernel) (by decide +kernel)
set_option maxRecDepth 20000 in
theorem gL_law_X8_through : GoodIn wsL_law (wsV RL 64 RX8 yX8_through wsX8_through) := goodIn_app (goodIn_of _ (by decide +kernel)) ggL_law_X8_through
set_option maxRecDepth 20000 in
theorem ggL_law_X7_reach : GoodIn wsL_law wsX7_reach := goodIn_r _ [492, 28, 20, 24, 408, 409, 410, 2, 411, 240, 241, 242, 243, 244, 245, 246, 247, 248, 104, 105, 106, 412, 413, 414, 415, 249, 250, 251, 19, 252, 48, 416, 417, 418, 23, 419, 420, 421, 153, 422, 143, 137, 144, 145, 423, 424, 425, 446, 447, 448, 27, 449, 62, 63, 64, 450, 451, 493, 494, 495, 496, 456, 457, 458, 459, 461, 462, 463, 464, 65, 465, 466, 467, 468, 469, 470, 497, 498, 499, 500, 501, 502, 503, 930, 931, 932, 933, 934, 935, 936, 937, 958, 959, 960, 961, 962, 963, 964, 965, 966, 967, 968, 969, 970, 971] (by decide +kernel) (by decide +kernel)
set_option maxRecDepth 20000 in
theorem gL_law_X7_reach : GoodIn wsL_law (wsV RL 65 RX7 yX7_reach wsX7_reach) := goodIn_app (goodIn_of _ (by decide +kernel)) ggL_law_X7_reach
set_option maxRecDepth 20000 in
theorem ggL_law_X8_reach : GoodIn wsL_law wsX8_reach := goodIn_r _ [507, 257, 258, 259, 5, 260, 202, 203, 204, 205, 206, 207, 86, 208, 209, 210, 211, 212, 213, 214, 215, 87, 216, 217, 218, 219, 85, 173, 174, 175, 220, 221, 222, 223, 224, 225, 226, 227, 228, 229, 230, 231, 89, 232, 233, 234, 235, 430, 431, 432, 433, 261, 262, 263, 264, 265, 266, 267, 268, 434, 435, 436, 437, 508, 509, 510, 511, 90, 269, 270, 271, 272, 273, 274, 275, 276, 277, 438, 439, 440, 441, 321, 322, 323, 479, 480, 481, 482, 483, 91, 484, 485, 486, 487, 488, 938, 939, 940, 941, 942, 943, 944, 945, 946, 947, 948, 949, 950, 951, 952, 953, 954, 955] (by decide +kernel) (by decide +kernel)
set_option maxRecDepth 20000 in
theorem gL_law_X8_reach : GoodIn wsL_law (wsV RL 68 RX8 yX8_reach wsX8_reach) := goodIn_app (goodIn_of _ (by decide +kernel)) ggL_law_X8_reach
set_option maxRecDepth 20000 in
theorem ggL_law_X7_meet : GoodIn wsL_law wsX7_meet := goodIn_r _ [515, 20, 408, 409, 410, 2, 411, 240, 241, 242, 243, 244, 245, 246, 247, 248, 104, 105, 106, 412, 413, 414, 415, 24, 249, 250, 251, 19, 252, 48, 416, 417, 418, 23, 419, 420, 421, 153, 422, 143, 137, 144, 145, 423, 424, 425, 516, 517, 518, 930, 931, 932, 933, 934, 935, 936, 937, 958, 959, 960, 961, 962, 963, 964, 965, 966, 967] (by decide +kernel) (by decide +kernel)
set_option maxRecDepth 20000 in
theorem gL_law_X7_meet : GoodIn wsL_law (wsV RL 69 RX7 yX7_meet wsX7_meet) := goodIn_app (goodIn_of _ (by decide +kernel)) ggL_law_X7_meet
set_option maxRecDepth 20000 in
theorem ggL_law_X8_meet : GoodIn wsL_law wsX8_meet := goodIn_r _ [522, 257, 258, 259, 5, 260, 202, 203, 204, 205, 206, 207, 86, 208, 209, 210, 211, 212, 213, 214, 215, 87, 216, 217, 218, 219, 85, 173, 174, 175, 220, 221, 222, 223, 224, 225, 226, 227, 228, 229, 230, 231, 89, 232, 233, 234, 235, 430, 431, 432, 433, 261, 262, 263, 264, 265, 266, 267, 268, 434, 435, 436, 437, 523, 524, 525, 526, 269, 270, 271, 272, 273, 274, 275, 276, 277, 438, 439, 440, 441, 321, 322, 323, 527, 528, 529, 355, 356, 357, 938, 939, 940, 941, 942, 943, 944, 945, 946, 947, 948, 949, 950, 951, 952, 953, 954, 955] (by decide +kernel) (by decide +kernel)
set_option maxRecDepth 20000 in
theorem gL_law_X8_meet : GoodIn wsL_law (wsV RL 73 RX8 yX8_meet wsX8_meet) := goodIn_app (goodIn_of _ (by decide +kernel)) ggL_law_X8_meet
set_option maxRecDepth 20000 in
theorem ggL_law_X7_seen : GoodIn wsL_law wsX7_seen := goodIn_r _ [533, 32, 534, 535, 536, 31, 537, 105, 2, 106, 538, 539, 540, 541, 542, 69, 70, 930, 931, 932, 933, 934, 935, 936, 937, 972, 973, 974, 975] (by decide +kernel) (by decide +kernel)
set_option maxRecDepth 20000 in
theorem gL_law_X7_seen : GoodIn wsL_law (wsV RL 74 RX7 yX7_seen wsX7_seen) := goodIn_app (goodIn_of _ (by decide +kernel)) ggL_law_X7_seen
set_option maxRecDepth 20000 in
theorem ggL_law_X8_seen : GoodIn wsL_law wsX8_seen := goodIn_r _ [546, 268, 547, 548, 92, 173, 174, 5, 175, 938, 939, 940, 941, 942, 943, 944, 945, 946, 947, 948, 949, 950, 951, 952, 953, 954, 955] (by decide +kernel) (by decide +kernel)
set_option maxRecDepth 20000 in
theorem gL_law_X8_seen : GoodIn wsL_law (wsV RL 77 RX8 yX8_seen wsX8_seen) := goodIn_app (goodIn_of _ (by decide +kernel)) ggL_law_X8_seen
set_option maxRecDepth 20000 in
theorem ggL_law_X7_forget : GoodIn wsL_law wsX7_forget := goodIn_r _ [552, 32, 534, 930, 931, 932, 933, 934, 935, 936, 937, 972, 973, 974, 975] (by decide +kernel) (by decide +kernel)
set_option maxRecDepth 20000 in
theorem gL_law_X7_forget : GoodIn wsL_law (wsV RL 78 RX7 yX7_forget wsX7_forget) := goodIn_app (goodIn_of _ (by decide +kernel)) ggL_law_X7_forget
set_option maxRecDepth 20000 in
theorem ggL_law_X8_forget : GoodIn wsL_law wsX8_forget := goodIn_r _ [556, 548, 938, 939, 940, 941, 942, 943, 944, 945, 946, 947, 948, 949, 950, 951, 952, 953, 954, 955] (by decide +kernel) (by decide +kernel)
set_option maxRecDepth 20000 in
theorem gL_law_X8_forget : GoodIn wsL_law (wsV RL 82 RX8 yX8_forget wsX8_forget) := goodIn_app (goodIn_of _ (by decide +kernel)) ggL_law_X8_forget
set_option maxRecDepth 20000 in
theorem ggL_law_X7_fits : GoodIn wsL_law wsX7_fits := goodIn_r _ [560, 32, 20, 104, 105, 2, 106, 561, 562, 563, 31, 564, 565, 566, 567, 568, 569, 542, 69, 70, 570, 311, 312, 19, 313, 49, 571, 572, 573, 574, 930, 931, 932, 933, 934, 935, 936, 937, 958, 959, 960, 961, 972, 973, 974, 975] (by decide +kernel) (by decide +kernel)
set_option maxRecDepth 20000 in
theorem gL_law_X7_fits : GoodIn wsL_law (wsV RL 83 RX7 yX7_fits wsX7_fits) := goodIn_app (goodIn_of _ (by decide +kernel)) ggL_law_X7_fits
set_option maxRecDepth 20000 in
theorem ggL_law_X8_fits : GoodIn wsL_law wsX8_fits := goodIn_r _ [578, 257, 258, 259, 5, 260, 202, 203, 204, 205, 206, 207, 86, 208, 209, 210, 211, 212, 213, 214, 215, 87, 216, 217, 218, 219, 85, 173, 174, 175, 220, 221, 222, 223, 224, 225, 226, 227, 228, 229, 230, 231, 89, 232, 233, 234, 235, 170, 171, 172, 579, 580, 581, 582, 583, 584, 585, 586, 548, 92, 269, 270, 271, 272, 273, 274, 275, 276, 277, 318, 319, 320, 321, 322, 323, 938, 939, 940, 941, 942, 943, 944, 945, 946, 947, 948, 949, 950, 951, 952, 953, 954, 955] (by decide +kernel) (by decide +kernel)
set_option maxRecDepth 20000 in
theorem gL_law_X8_fits : GoodIn wsL_law (wsV RL 86 RX8 yX8_fits wsX8_fits) := goodIn_app (goodIn_of _ (by decide +kernel)) ggL_law_X8_fits
set_option maxRecDepth 20000 in
theorem ggL_law_X7_look : GoodIn wsL_law wsX7_look := goodIn_r _ [590, 32, 20, 104, 105, 2, 106, 561, 562, 563, 31, 564, 565, 566, 567, 568, 569, 542, 69, 70, 570, 311, 312, 19, 313, 49, 591, 592, 593, 594, 71, 595, 596, 597, 598, 599, 600, 601, 602, 603, 337, 338, 339, 340, 341, 342, 930, 931, 932, 933, 934, 935, 936, 937, 958, 959, 960, 961, 972, 973, 974, 975] (by decide +kernel) (by decide +kernel)
set_option maxRecDepth 20000 in
theorem gL_law_X7_look : GoodIn wsL_law (wsV RL 87 RX7 yX7_look wsX7_look) := goodIn_app (goodIn_of _ (by decide +kernel)) ggL_law_X7_look
set_option maxRecDepth 20000 in
theorem ggL_law_X8_look : GoodIn wsL_law wsX8_look := goodIn_r _ [607, 257, 258, 259, 5, 260, 202, 203, 204, 205, 206, 207, 86, 208, 209, 210, 211, 212, 213, 214, 215, 87, 216, 217, 218, 219, 85, 173, 174, 175, 220, 221, 222, 223, 224, 225, 226, 227, 228, 229, 230, 231, 89, 232, 233, 234, 235, 170, 171, 172, 608, 609, 610, 611, 579, 580, 581, 582, 583, 584, 585, 586, 548, 92, 269, 270, 271, 272, 273, 274, 275, 276, 277, 318, 319, 320, 321, 322, 323, 612, 613, 614, 615, 93, 361, 362, 363, 938, 939, 940, 941, 942, 943, 944, 945, 946, 947, 948, 949, 950, 951, 952, 953, 954, 955] (by decide +kernel) (by decide +kernel)
set_option maxRecDepth 20000 in
theorem gL_law_X8_look : GoodIn wsL_law (wsV RL 90 RX8 yX8_look wsX8_look) := goodIn_app (goodIn_of _ (by decide +kernel)) ggL_law_X8_look
set_option maxRecDepth 20000 in
theorem ggL_law_X7_view : GoodIn wsL_law wsX7_view := goodIn_r _ [619, 24, 620, 621, 622, 23, 623, 153, 624, 424, 425, 105, 2, 106, 625, 626, 627, 628, 629, 630, 631, 632, 633, 634, 635, 498, 499, 500, 501, 502, 503, 930, 931, 932, 933, 934, 935, 936, 937, 962, 963, 964, 965, 966, 967] (by decide +kernel) (by decide +kernel)
set_option maxRecDepth 20000 in
theorem gL_law_X7_view : GoodIn wsL_law (wsV RL 91 RX7 yX7_view wsX7_view) := goodIn_app (goodIn_of _ (by decide +kernel)) ggL_law_X7_view
set_option maxRecDepth 20000 in
theorem ggL_law_X8_view : GoodIn wsL_law wsX8_view := goodIn_r _ [639, 257, 258, 259, 5, 260, 202, 203, 204, 205, 206, 207, 86, 208, 209, 210, 211, 212, 213, 214, 215, 87, 216, 217, 218, 219, 85, 173, 174, 175, 220, 221, 222, 223, 224, 225, 226, 227, 228, 229, 230, 231, 89, 232, 233, 234, 235, 640, 641, 642, 643, 434, 435, 436, 437, 644, 645, 646, 647, 648, 649, 650, 651, 652, 653, 654, 655, 488, 938, 939, 940, 941, 942, 943, 944, 945, 946, 947, 948, 949, 950, 951, 952, 953, 954, 955] (by decide +kernel) (by decide +kernel)
set_option maxRecDepth 20000 in
theorem gL_law_X8_view : GoodIn wsL_law (wsV RL 94 RX8 yX8_view wsX8_view) := goodIn_app (goodIn_of _ (by decide +kernel)) ggL_law_X8_view
set_option maxRecDepth 20000 in
theorem ggL_law_X7_sees : GoodIn wsL_law wsX7_sees := goodIn_r _ [659, 24, 620, 621, 622, 23, 623, 153, 624, 424, 425, 105, 2, 106, 625, 626, 627, 628, 629, 630, 631, 632, 633, 634, 423, 930, 931, 932, 933, 934, 935, 936, 937, 962, 963, 964, 965, 966, 967] (by decide +kernel) (by decide +kernel)
set_option maxRecDepth 20000 in
theorem gL_law_X7_sees : GoodIn wsL_law (wsV RL 95 RX7 yX7_sees wsX7_sees) := goodIn_app (goodIn_of _ (by decide +kernel)) ggL_law_X7_sees
set_option maxRecDepth 20000 in
theorem ggL_law_X8_sees : GoodIn wsL_law wsX8_sees := goodIn_r _ [663, 257, 258, 259, 5, 260, 202, 203, 204, 205, 206, 207, 86, 208, 209, 210, 211, 212, 213, 214, 215, 87, 216, 217, 218, 219, 85, 173, 174, 175, 220, 221, 222, 223, 224, 225, 226, 227, 228, 229, 230, 231, 89, 232, 233, 234, 235, 640, 641, 642, 643, 434, 435, 436, 437, 664, 665, 666, 667, 652, 653, 654, 655, 488, 938, 939, 940, 941, 942, 943, 944, 945, 946, 947, 948, 949, 950, 951, 952, 953, 954, 955] (by decide +kernel) (by decide +kernel)
set_option maxRecDepth 20000 in
theorem gL_law_X8_sees : GoodIn wsL_law (wsV RL 98 RX8 yX8_sees wsX8_sees) := goodIn_app (goodIn_of _ (by decide +kernel)) ggL_law_X8_sees
set_option maxRecDepth 20000 in
theorem ggL_law_X7_watchers : GoodIn wsL_law wsX7_watchers := goodIn_r _ [671, 24, 672, 673, 674, 104, 105, 2, 106, 675, 676, 677, 23, 678, 679, 57, 58, 153, 55, 680, 621, 622, 623, 624, 424, 425, 681, 626, 627, 628, 629, 630, 631, 632, 633, 634, 682, 683, 684, 685, 930, 931, 932, 933, 934, 935, 936, 937, 962, 963, 964, 965, 966, 967] (by decide +kernel) (by decide +kernel)
set_option maxRecDepth 20000 in
theorem gL_law_X7_watchers : GoodIn wsL_law (wsV RL 99 RX7 yX7_watchers wsX7_watchers) := goodIn_app (goodIn_of _ (by decide +kernel)) ggL_law_X7_watchers
set_option maxRecDepth 20000 in
theorem ggL_law_X8_watchers : GoodIn wsL_law wsX8_watchers := goodIn_r _ [689, 297, 257, 258, 259, 5, 260, 202, 203, 204, 205, 206, 207, 86, 208, 209, 210, 211, 212, 213, 214, 215, 87, 216, 217, 218, 219, 85, 173, 174, 175, 220, 221, 222, 223, 224, 225, 226, 227, 228, 229, 230, 231, 89, 232, 233, 234, 235, 690, 691, 692, 693, 94, 664, 665, 666, 667, 652, 653, 654, 655, 488, 938, 939, 940, 941, 942, 943, 944, 945, 946, 947, 948, 949, 950, 951, 952, 953, 954, 955] (by decide +kernel) (by decide +kernel)
set_option maxRecDepth 20000 in
theorem gL_law_X8_watchers : GoodIn wsL_law (wsV RL 102 RX8 yX8_watchers wsX8_watchers) := goodIn_app (goodIn_of _ (by decide +kernel)) ggL_law_X8_watchers
set_option maxRecDepth 20000 in
theorem ggL_law_X7_echoes : GoodIn wsL_law wsX7_echoes := goodIn_r _ [697, 24, 698, 699, 2, 700, 104, 105, 106, 620, 621, 622, 23, 623, 153, 624, 424, 425, 701, 702, 703, 704, 631, 632, 633, 634, 629, 630, 930, 931, 932, 933, 934, 935, 936, 937, 962, 963, 964, 965, 966, 967] (by decide +kernel) (by decide +kernel)
set_option maxRecDepth 20000 in
theorem gL_law_X7_echoes : GoodIn wsL_law (wsV RL 103 RX7 yX7_echoes wsX7_echoes) := goodIn_app (goodIn_of _ (by decide +kernel)) ggL_law_X7_echoes
set_option maxRecDepth 20000 in
theorem ggL_law_X8_echoes : GoodIn wsL_law wsX8_echoes := goodIn_r _ [708, 257, 258, 259, 5, 260, 202, 203, 204, 205, 206, 207, 86, 208, 209, 210, 211, 212, 213, 214, 215, 87, 216, 217, 218, 219, 85, 173, 174, 175, 220, 221, 222, 223, 224, 225, 226, 227, 228, 229, 230, 231, 89, 232, 233, 234, 235, 709, 710, 711, 712, 488, 170, 171, 172, 713, 714, 715, 716, 717, 718, 719, 720, 648, 649, 650, 651, 652, 653, 654, 655, 938, 939, 940, 941, 942, 943, 944, 945, 946, 947, 948, 949, 950, 951, 952, 953, 954, 955] (by decide +kernel) (by decide +kernel)
set_option maxRecDepth 20000 in
theorem gL_law_X8_echoes : GoodIn wsL_law (wsV RL 106 RX8 yX8_echoes wsX8_echoes) := goodIn_app (goodIn_of _ (by decide +kernel)) ggL_law_X8_echoes
set_option maxRecDepth 20000 in
theorem ggL_law_X7_fog : GoodIn wsL_law wsX7_fog := goodIn_r _ [724, 24, 725, 726, 727, 620, 621, 622, 23, 623, 153, 624, 424, 425, 105, 2, 106, 104, 625, 626, 627, 628, 629, 630, 631, 632, 633, 634, 423, 728, 729, 730, 731, 732, 597, 733, 930, 931, 932, 933, 934, 935, 936, 937, 962, 963, 964, 965, 966, 967] (by decide +kernel) (by decide +kernel)
set_option maxRecDepth 20000 in
theorem gL_law_X7_fog : GoodIn wsL_law (wsV RL 107 RX7 yX7_fog wsX7_fog) := goodIn_app (goodIn_of _ (by decide +kernel)) ggL_law_X7_fog
set_option maxRecDepth 20000 in
theorem ggL_law_X8_fog : GoodIn wsL_law wsX8_fog := goodIn_r _ [737, 738, 257, 258, 259, 5, 260, 202, 203, 204, 205, 206, 207, 86, 208, 209, 210, 211, 212, 213, 214, 215, 87, 216, 217, 218, 219, 85, 173, 174, 175, 220, 221, 222, 223, 224, 225, 226, 227, 228, 229, 230, 231, 89, 232, 233, 234, 235, 640, 641, 642, 643, 434, 435, 436, 437, 170, 171, 172, 739, 740, 741, 742, 664, 665, 666, 667, 652, 653, 654, 655, 488, 743, 744, 745, 746, 747, 748, 749, 938, 939, 940, 941, 942, 943, 944, 945, 946, 947, 948, 949, 950, 951, 952, 953, 954, 955] (by decide +kernel) (by decide +kernel)
set_option maxRecDepth 20000 in
theorem gL_law_X8_fog : GoodIn wsL_law (wsV RL 111 RX8 yX8_fog wsX8_fog) := goodIn_app (goodIn_of _ (by decide +kernel)) ggL_law_X8_fog
set_option maxRecDepth 20000 in
theorem ggL_law_X7_sheet : GoodIn wsL_law wsX7_sheet := goodIn_r _ [753, 754, 755, 756, 2, 757, 34, 104, 105, 106, 758, 759, 760, 761, 37, 762, 763, 764, 36, 765, 766, 767, 596, 597, 598, 768, 769, 770, 771, 76, 75, 930, 931, 932, 933, 934, 935, 936, 937, 976, 977, 978, 979] (by decide +kernel) (by decide +kernel)
set_option maxRecDepth 20000 in
theorem gL_law_X7_sheet : GoodIn wsL_law (wsV RL 112 RX7 yX7_sheet wsX7_sheet) := goodIn_app (goodIn_of _ (by decide +kernel)) ggL_law_X7_sheet
set_option maxRecDepth 20000 in
theorem ggL_law_X8_sheet : GoodIn wsL_law wsX8_sheet := goodIn_r _ [775, 297, 81, 82, 83, 776, 777, 5, 778, 268, 173, 174, 175, 779, 780, 781, 782, 783, 938, 939, 940, 941, 942, 943, 944, 945, 946, 947, 948, 949, 950, 951, 952, 953, 954, 955] (by decide +kernel) (by decide +kernel)
set_option maxRecDepth 20000 in
theorem gL_law_X8_sheet : GoodIn wsL_law (wsV RL 115 RX8 yX8_sheet wsX8_sheet) := goodIn_app (goodIn_of _ (by decide +kernel)) ggL_law_X8_sheet
set_option maxRecDepth 20000 in
theorem ggL_law_X7_lose : GoodIn wsL_law wsX7_lose := goodIn_r _ [787, 788, 789, 754, 755, 756, 2, 757, 34, 104, 105, 106, 758, 759, 760, 761, 37, 976, 977, 978, 979, 930, 931, 932, 933, 934, 935, 936, 937] (by decide +kernel) (by decide +kernel)
set_option maxRecDepth 20000 in
theorem gL_law_X7_lose : GoodIn wsL_law (wsV RL 116 RX7 yX7_lose wsX7_lose) := goodIn_app (goodIn_of _ (by decide +kernel)) ggL_law_X7_lose
set_option maxRecDepth 20000 in
theorem ggL_law_X8_lose : GoodIn wsL_law wsX8_lose := goodIn_r _ [793, 81, 82, 776, 777, 5, 778, 268, 173, 174, 175, 779, 780, 781, 782, 783, 938, 939, 940, 941, 942, 943, 944, 945, 946, 947, 948, 949, 950, 951, 952, 953, 954, 955] (by decide +kernel) (by decide +kernel)
set_option maxRecDepth 20000 in
theorem gL_law_X8_lose : GoodIn wsL_law (wsV RL 119 RX8 yX8_lose wsX8_lose) := goodIn_app (goodIn_of _ (by decide +kernel)) ggL_law_X8_lose
set_option maxRecDepth 20000 in
theorem ggL_law_X7_lay : GoodIn wsL_law wsX7_lay := goodIn_r _ [797, 754, 755, 756, 2, 757, 34, 104, 105, 106, 798, 799, 800, 36, 801, 76, 766, 771, 758, 759, 760, 761, 37, 802, 803, 804, 805, 75, 930, 931, 932, 933, 934, 935, 936, 937, 976, 977, 978, 979] (by decide +kernel) (by decide +kernel)
set_option maxRecDepth 20000 in
theorem gL_law_X7_lay : GoodIn wsL_law (wsV RL 120 RX7 yX7_lay wsX7_lay) := goodIn_app (goodIn_of _ (by decide +kernel)) ggL_law_X7_lay
set_option maxRecDepth 20000 in
theorem ggL_law_X8_lay : GoodIn wsL_law wsX8_lay := goodIn_r _ [809, 297, 83, 776, 777, 5, 778, 268, 173, 174, 175, 810, 811, 812, 813, 81, 82, 779, 780, 781, 782, 783, 814, 815, 816, 938, 939, 940, 941, 942, 943, 944, 945, 946, 947, 948, 949, 950, 951, 952, 953, 954, 955] (by decide +kernel) (by decide +kernel)
set_option maxRecDepth 20000 in
theorem gL_law_X8_lay : GoodIn wsL_law (wsV RL 124 RX8 yX8_lay wsX8_lay) := goodIn_app (goodIn_of _ (by decide +kernel)) ggL_law_X8_lay
set_option maxRecDepth 20000 in
theorem ggL_law_X7_get : GoodIn wsL_law wsX7_get := goodIn_r _ [820, 821, 37, 754, 755, 756, 2, 757, 34, 104, 105, 106, 798, 799, 800, 36, 801, 76, 766, 771, 822, 823, 824, 825, 75, 930, 931, 932, 933, 934, 935, 936, 937, 976, 977, 978, 979] (by decide +kernel) (by decide +kernel)
set_option maxRecDepth 20000 in
theorem gL_law_X7_get : GoodIn wsL_law (wsV RL 125 RX7 yX7_get wsX7_get) := goodIn_app (goodIn_of _ (by decide +kernel)) ggL_law_X7_get
set_option maxRecDepth 20000 in
theorem ggL_law_X8_get : GoodIn wsL_law wsX8_get := goodIn_r _ [829, 297, 830, 83, 776, 777, 5, 778, 268, 173, 174, 175, 810, 811, 812, 813, 81, 82, 779, 780, 781, 782, 783, 938, 939, 940, 941, 942, 943, 944, 945, 946, 947, 948, 949, 950, 951, 952, 953, 954, 955] (by decide +kernel) (by decide +kernel)
set_option maxRecDepth 20000 in
theorem gL_law_X8_get : GoodIn wsL_law (wsV RL 128 RX8 yX8_get wsX8_get) := goodIn_app (goodIn_of _ (by decide +kernel)) ggL_law_X8_get
set_option maxRecDepth 20000 in
theorem ggL_law_X7_copy : GoodIn wsL_law wsX7_copy := goodIn_r _ [834, 788, 835, 836, 837, 838, 839, 840, 754, 755, 756, 2, 757, 34, 104, 105, 106, 758, 759, 760, 761, 37, 841, 842, 843, 36, 844, 771, 976, 977, 978, 979, 930, 931, 932, 933, 934, 935, 936, 937] (by decide +kernel) (by decide +kernel)
set_option maxRecDepth 20000 in
theorem gL_law_X7_copy : GoodIn wsL_law (wsV RL 129 RX7 yX7_copy wsX7_copy) := goodIn_app (goodIn_of _ (by decide +kernel)) ggL_law_X7_copy
set_option maxRecDepth 20000 in
theorem ggL_law_X8_copy : GoodIn wsL_law wsX8_copy := goodIn_r _ [848, 81, 82, 84, 83, 776, 777, 5, 778, 268, 173, 174, 175, 779, 780, 781, 782, 783, 938, 939, 940, 941, 942, 943, 944, 945, 946, 947, 948, 949, 950, 951, 952, 953, 954, 955] (by decide +kernel) (by decide +kernel)
set_option maxRecDepth 20000 in
theorem gL_law_X8_copy : GoodIn wsL_law (wsV RL 132 RX8 yX8_copy wsX8_copy) := goodIn_app (goodIn_of _ (by decide +kernel)) ggL_law_X8_copy
set_option maxRecDepth 20000 in
theorem ggL_law_X7_write : GoodIn wsL_law wsX7_write := goodIn_r _ [852, 788, 789, 24, 754, 755, 756, 2, 757, 34, 104, 105, 106, 758, 759, 760, 761, 37, 620, 621, 622, 23, 623, 153, 624, 424, 425, 853, 617, 618, 619, 625, 626, 627, 628, 629, 630, 631, 632, 633, 634, 635, 498, 499, 500, 501, 502, 503, 802, 803, 804, 36, 805, 771, 75, 766, 976, 977, 978, 979, 930, 931, 932, 933, 934, 935, 936, 937, 962, 963, 964, 965, 966, 967] (by decide +kernel) (by decide +kernel)
set_option maxRecDepth 20000 in
theorem gL_law_X7_write : GoodIn wsL_law (wsV RL 133 RX7 yX7_write wsX7_write) := goodIn_app (goodIn_of _ (by decide +kernel)) ggL_law_X7_write
set_option maxRecDepth 20000 in
theorem ggL_law_X8_write : GoodIn wsL_law wsX8_write := goodIn_r _ [857, 81, 82, 83, 89, 776, 777, 5, 778, 268, 173, 174, 175, 779, 780, 781, 782, 783, 257, 258, 259, 260, 202, 203, 204, 205, 206, 207, 86, 208, 209, 210, 211, 212, 213, 214, 215, 87, 216, 217, 218, 219, 85, 220, 221, 222, 223, 224, 225, 226, 227, 228, 229, 230, 231, 232, 233, 234, 235, 644, 645, 646, 647, 648, 649, 650, 651, 652, 653, 654, 655, 488, 814, 815, 816, 938, 939, 940, 941, 942, 943, 944, 945, 946, 947, 948, 949, 950, 951, 952, 953, 954, 955] (by decide +kernel) (by decide +kernel)
set_option maxRecDepth 20000 in
theorem gL_law_X8_write : GoodIn wsL_law (wsV RL 136 RX8 yX8_write wsX8_write) := goodIn_app (goodIn_of _ (by decide +kernel)) ggL_law_X8_write
set_option maxRecDepth 20000 in
theorem ggL_law_X7_read : GoodIn wsL_law wsX7_read := goodIn_r _ [861, 788, 789, 754, 755, 756, 2, 757, 34, 104, 105, 106, 758, 759, 760, 761, 37, 822, 823, 824, 36, 825, 771, 75, 862, 531, 532, 533, 32, 534, 535, 536, 31, 537, 538, 539, 540, 541, 542, 69, 70, 976, 977, 978, 979, 930, 931, 932, 933, 934, 935, 936, 937, 972, 973, 974, 975] (by decide +kernel) (by decide +kernel)
set_option maxRecDepth 20000 in
theorem gL_law_X7_read : GoodIn wsL_law (wsV RL 137 RX7 yX7_read wsX7_read) := goodIn_app (goodIn_of _ (by decide +kernel)) ggL_law_X7_read
set_option maxRecDepth 20000 in
theorem ggL_law_X8_read : GoodIn wsL_law wsX8_read := goodIn_r _ [866, 81, 82, 83, 776, 777, 5, 778, 268, 173, 174, 175, 779, 780, 781, 782, 783, 867, 544, 545, 546, 547, 548, 92, 938, 939, 940, 941, 942, 943, 944, 945, 946, 947, 948, 949, 950, 951, 952, 953, 954, 955] (by decide +kernel) (by decide +kernel)
set_option maxRecDepth 20000 in
theorem gL_law_X8_read : GoodIn wsL_law (wsV RL 140 RX8 yX8_read wsX8_read) := goodIn_app (goodIn_of _ (by decide +kernel)) ggL_law_X8_read
set_option maxRecDepth 20000 in
theorem ggL_law_X7_count : GoodIn wsL_law wsX7_count := goodIn_r _ [871, 20, 248, 24, 872, 15, 99, 16, 32, 534, 37, 635, 498, 499, 500, 501, 502, 503, 873, 874, 875, 19, 876, 120, 372, 250, 251, 252, 48, 877, 337, 338, 339, 340, 341, 342, 878, 879, 880, 881, 882, 329, 137, 330, 331, 332, 883, 884, 885, 886, 887, 285, 286, 142, 143, 144, 145, 373, 374, 375, 376, 288, 289, 290, 291, 377, 147, 148, 930, 931, 932, 933, 934, 935, 936, 937, 958, 959, 960, 961, 962, 963, 964, 965, 966, 967, 956, 957, 972, 973, 974, 975] (by decide +kernel) (by decide +kernel)
set_option maxRecDepth 20000 in
theorem gL_law_X7_count : GoodIn wsL_law (wsV RL 141 RX7 yX7_count wsX7_count) := goodIn_app (goodIn_of _ (by decide +kernel)) ggL_law_X7_count
set_option maxRecDepth 20000 in
theorem ggL_law_X8_count : GoodIn wsL_law wsX8_count := goodIn_r _ [891, 207, 89, 86, 548, 87, 783, 257, 258, 259, 5, 260, 202, 203, 204, 205, 206, 208, 209, 210, 211, 212, 213, 214, 215, 216, 217, 218, 219, 85, 173, 174, 175, 220, 221, 222, 223, 224, 225, 226, 227, 228, 229, 230, 231, 232, 233, 234, 235, 361, 362, 363, 352, 353, 354, 355, 356, 357, 268, 275, 276, 277, 321, 322, 323, 298, 299, 300, 386, 387, 388, 269, 270, 271, 272, 273, 274, 301, 302, 303, 304, 305, 938, 939, 940, 941, 942, 943, 944, 945, 946, 947, 948, 949, 950, 951, 952, 953, 954, 955] (by decide +kernel) (by decide +kernel)
set_option maxRecDepth 20000 in
theorem gL_law_X8_count : GoodIn wsL_law (wsV RL 144 RX8 yX8_count wsX8_count) := goodIn_app (goodIn_of _ (by decide +kernel)) ggL_law_X8_count
set_option maxRecDepth 20000 in
theorem ggL_law_X7_digest : GoodIn wsL_law wsX7_digest := goodIn_r _ [895, 896, 897, 20, 248, 898, 869, 870, 2, 871, 24, 872, 15, 99, 16, 32, 534, 37, 635, 498, 499, 500, 501, 502, 503, 873, 874, 875, 19, 876, 120, 372, 250, 251, 252, 48, 877, 337, 338, 339, 340, 341, 342, 878, 879, 880, 881, 882, 329, 137, 330, 331, 332, 883, 884, 885, 886, 887, 285, 286, 142, 143, 144, 145, 373, 374, 375, 376, 288, 289, 290, 291, 377, 147, 148, 899, 193, 194, 195, 196, 197, 900, 901, 902, 903, 904, 237, 238, 239, 240, 241, 242, 243, 244, 245, 246, 247, 104, 105, 106, 249, 905, 307, 308, 309, 310, 311, 312, 313, 49, 906, 325, 326, 327, 328, 333, 334, 335, 336, 343, 907, 365, 366, 367, 284, 368, 369, 370, 371, 908, 390, 391, 392, 393, 394, 395, 909, 405, 406, 407, 408, 409, 410, 411, 412, 413, 414, 415, 416, 417, 418, 23, 419, 420, 421, 153, 422, 423, 424, 425, 910, 443, 444, 445, 28, 446, 447, 448, 27, 449, 62, 63, 64, 450, 451, 452, 453, 454, 455, 456, 457, 458, 459, 460, 461, 462, 463, 464, 65, 465, 466, 467, 468, 469, 470, 911, 490, 491, 492, 493, 494, 495, 496, 497, 912, 558, 559, 560, 561, 562, 563, 31, 564, 565, 566, 567, 568, 569, 542, 69, 70, 570, 571, 572, 573, 574, 913, 588, 589, 590, 591, 592, 593, 594, 71, 595, 596, 597, 598, 599, 600, 601, 602, 603, 853, 617, 618, 619, 620, 621, 622, 623, 624, 625, 626, 627, 628, 629, 630, 631, 632, 633, 634, 914, 657, 658, 659, 915, 669, 670, 671, 672, 673, 674, 675, 676, 677, 678, 679, 57, 58, 55, 680, 681, 682, 683, 684, 685, 916, 695, 696, 697, 698, 699, 700, 701, 702, 703, 704, 917, 722, 723, 724, 725, 726, 727, 728, 729, 730, 731, 732, 733, 918, 513, 514, 515, 516, 517, 518, 930, 931, 932, 933, 934, 935, 936, 937, 958, 959, 960, 961, 962, 963, 964, 965, 966, 967, 956, 957, 972, 973, 974, 975, 968, 969, 970, 971] (by decide +kernel) (by decide +kernel)
set_option maxRecDepth 20000 in
theorem gL_law_X7_digest : GoodIn wsL_law (wsV RL 145 RX7 yX7_digest wsX7_digest) := goodIn_app (goodIn_of _ (by decide +kernel)) ggL_law_X7_digest
set_option maxRecDepth 20000 in
theorem ggL_law_X8_digest : GoodIn wsL_law wsX8_digest := goodIn_r _ [922, 923, 924, 207, 87, 925, 889, 890, 5, 891, 89, 86, 548, 783, 257, 258, 259, 260, 202, 203, 204, 205, 206, 208, 209, 210, 211, 212, 213, 214, 215, 216, 217, 218, 219, 85, 173, 174, 175, 220, 221, 222, 223, 224, 225, 226, 227, 228, 229, 230, 231, 232, 233, 234, 235, 361, 362, 363, 352, 353, 354, 355, 356, 357, 268, 275, 276, 277, 321, 322, 323, 298, 299, 300, 386, 387, 388, 269, 270, 271, 272, 273, 274, 301, 302, 303, 304, 305, 318, 319, 320, 348, 349, 350, 351, 358, 359, 360, 382, 383, 384, 385, 400, 401, 402, 403, 438, 439, 440, 441, 475, 476, 477, 478, 90, 479, 480, 481, 482, 483, 91, 484, 485, 486, 487, 488, 508, 509, 510, 511, 579, 580, 581, 582, 583, 584, 585, 586, 92, 608, 609, 610, 611, 612, 613, 614, 615, 93, 926, 637, 638, 639, 640, 641, 642, 643, 434, 435, 436, 437, 644, 645, 646, 647, 648, 649, 650, 651, 652, 653, 654, 655, 927, 661, 662, 663, 664, 665, 666, 667, 690, 691, 692, 693, 94, 713, 714, 715, 716, 717, 718, 719, 720, 928, 735, 736, 737, 738, 170, 171, 172, 739, 740, 741, 742, 743, 744, 745, 746, 747, 748, 749, 929, 520, 521, 522, 430, 431, 432, 433, 261, 262, 263, 264, 265, 266, 267, 523, 524, 525, 526, 527, 528, 529, 938, 939, 940, 941, 942, 943, 944, 945, 946, 947, 948, 949, 950, 951, 952, 953, 954, 955] (by decide +kernel) (by decide +kernel)
set_option maxRecDepth 20000 in
theorem gL_law_X8_digest : GoodIn wsL_law (wsV RL 149 RX8 yX8_digest wsX8_digest) := goodIn_app (goodIn_of _ (by decide +kernel)) ggL_law_X8_digest
end
