section
theorem wlu_0 : ∀ w ∈ wsX00, w ∈ lw_tbl := by decide +kernel
theorem wlu_1 : ∀ w ∈ wsX10, w ∈ lw_tbl := by decide +kernel
theorem wlu_3 : ∀ w ∈ wsX30, w ∈ lw_tbl := by decide +kernel
theorem wlu_4 : ∀ w ∈ wsX40, w ∈ lw_tbl := by decide +kernel
theorem wlu_5 : ∀ w ∈ wsX50, w ∈ lw_tbl := by decide +kernel
theorem wlu_6 : ∀ w ∈ wsX60, w ∈ lw_tbl := by decide +kernel
theorem wlu_7 : ∀ w ∈ wsX70, w ∈ lw_tbl := by decide +kernel
theorem wlu_8 : ∀ w ∈ wsX80, w ∈ lw_tbl := by decide +kernel
set_option maxRecDepth 20000 in
theorem wsL_law_all : ∀ w ∈ wsL_law, w ∈ lw_tbl := List.forall_mem_append.mpr ⟨List.forall_mem_append.mpr ⟨List.forall_mem_append.mpr ⟨List.forall_mem_append.mpr ⟨List.forall_mem_append.mpr ⟨List.forall_mem_append.mpr ⟨List.forall_mem_append.mpr ⟨List.forall_mem_append.mpr ⟨List.forall_mem_append.mpr ⟨List.forall_mem_append.mpr ⟨wli_1, List.forall_mem_append.mpr ⟨wli_2, List.forall_mem_append.mpr ⟨wli_3, List.forall_mem_append.mpr ⟨wli_4, List.forall_mem_append.mpr ⟨wli_5, List.forall_mem_append.mpr ⟨wli_6, List.forall_mem_append.mpr ⟨wli_7, List.forall_mem_append.mpr ⟨wli_8, List.forall_mem_append.mpr ⟨wli_9, List.forall_mem_append.mpr ⟨wli_10, List.forall_mem_append.mpr ⟨wli_11, List.forall_mem_append.mpr ⟨wli_12, List.forall_mem_append.mpr ⟨wli_13, List.forall_mem_append.mpr ⟨wli_14, List.forall_mem_append.mpr ⟨wli_15, List.forall_mem_append.mpr ⟨wli_16, List.forall_mem_append.mpr ⟨wli_17, List.forall_mem_append.mpr ⟨wli_18, List.forall_mem_append.mpr ⟨wli_19, List.forall_mem_append.mpr ⟨wli_20, List.forall_mem_append.mpr ⟨wli_21, List.forall_mem_append.mpr ⟨wli_22, List.forall_mem_append.mpr ⟨wli_23, List.forall_mem_append.mpr ⟨wli_24, List.forall_mem_append.mpr ⟨wli_25, List.forall_mem_append.mpr ⟨wli_26, List.forall_mem_append.mpr ⟨wli_27, List.forall_mem_append.mpr ⟨wli_28, List.forall_mem_append.mpr ⟨wli_29, List.forall_mem_append.mpr ⟨wli_30, List.forall_mem_append.mpr ⟨wli_31, List.forall_mem_append.mpr ⟨wli_32, List.forall_mem_append.mpr ⟨wli_33, List.forall_mem_append.mpr ⟨wli_34, List.forall_mem_append.mpr ⟨wli_35, List.forall_mem_append.mpr ⟨wli_36, List.forall_mem_append.mpr ⟨wli_37, List.forall_mem_append.mpr ⟨wli_38, wli_39⟩⟩⟩⟩⟩⟩⟩⟩⟩⟩⟩⟩⟩⟩⟩⟩⟩⟩⟩⟩⟩⟩⟩⟩⟩⟩⟩⟩⟩⟩⟩⟩⟩⟩⟩⟩⟩⟩, wlu_7⟩, wlu_8⟩, wlu_5⟩, wlu_3⟩, wlu_1⟩, wlu_6⟩, wlu_0⟩, wlu_4⟩, fun _ h => absurd h List.not_mem_nil⟩
set_option maxRecDepth 20000 in
theorem ggL_law_X7_init : GoodIn wsL_law wsX7_init := goodIn_r _ [8, 9, 10, 11, 12, 13, 14, 15, 16, 17, 18, 19, 20, 21, 22, 23, 24, 25, 26, 27, 28, 29, 30, 31, 32, 33, 34, 35, 36, 37, 38, 39, 40, 41, 42, 43, 44, 45, 46, 47, 48, 49, 50, 51, 52, 53, 54, 55, 56, 57, 58, 59, 60, 61, 62, 63, 64, 65, 66, 67, 68, 69, 70, 71, 72, 73, 74, 75, 76, 956, 957, 930, 931, 932, 933, 934, 935, 936, 937, 958, 959, 960, 961, 962, 963, 964, 965, 966, 967, 968, 969, 970, 971, 972, 973, 974, 975, 976, 977, 978, 979] (by decide +kernel) (by decide +kernel)
set_option maxRecDepth 20000 in
theorem gL_law_X7_init : GoodIn wsL_law (wsX7_init) := ggL_law_X7_init
set_option maxRecDepth 20000 in
theorem ggL_law_X8_init : GoodIn wsL_law wsX8_init := goodIn_r _ [79, 80, 10, 11, 42, 81, 82, 83, 84, 85, 86, 87, 88, 89, 90, 91, 92, 93, 54, 94, 938, 939, 940, 941, 942, 943, 944, 945, 946, 947, 948, 949, 950, 951, 952, 953, 954, 955] (by decide +kernel) (by decide +kernel)
set_option maxRecDepth 20000 in
theorem gL_law_X8_init : GoodIn wsL_law (wsX8_init) := ggL_law_X8_init
set_option maxRecDepth 20000 in
theorem ggL_law_X7_type : GoodIn wsL_law wsX7_type := goodIn_r _ [98, 99, 100, 101, 102, 2, 103, 15, 16, 104, 105, 106, 107, 108, 109, 14, 110, 44, 43, 111, 112, 113, 114, 20, 24, 115, 116, 117, 19, 118, 50, 119, 120, 121, 122, 123, 124, 125, 126, 127, 128, 129, 130, 131, 132, 133, 134, 48, 49, 135, 136, 137, 138, 139, 140, 141, 142, 143, 144, 145, 146, 147, 148, 149, 150, 151, 23, 152, 56, 153, 154, 155, 156, 157, 158, 159, 160, 161, 162, 163, 164, 956, 957, 930, 931, 932, 933, 934, 935, 936, 937, 958, 959, 960, 961, 962, 963, 964, 965, 966, 967] (by decide +kernel) (by decide +kernel)
set_option maxRecDepth 20000 in
theorem gL_law_X7_type : GoodIn wsL_law (wsV RL 13 RX7 yX7_type wsX7_type) := goodIn_app (goodIn_of _ (by decide +kernel)) ggL_law_X7_type
set_option maxRecDepth 20000 in
theorem ggL_law_X8_type : GoodIn wsL_law wsX8_type := goodIn_r _ [168, 169, 86, 85, 170, 171, 5, 172, 173, 174, 175, 938, 939, 940, 941, 942, 943, 944, 945, 946, 947, 948, 949, 950, 951, 952, 953, 954, 955] (by decide +kernel) (by decide +kernel)
set_option maxRecDepth 20000 in
theorem gL_law_X8_type : GoodIn wsL_law (wsV RL 17 RX8 yX8_type wsX8_type) := goodIn_app (goodIn_of _ (by decide +kernel)) ggL_law_X8_type
set_option maxRecDepth 20000 in
theorem ggL_law_X7_wipe : GoodIn wsL_law wsX7_wipe := goodIn_r _ [179, 99, 100, 101, 102, 2, 103, 15, 16, 111, 112, 113, 114, 20, 24, 115, 116, 117, 19, 118, 50, 119, 120, 121, 122, 123, 124, 125, 126, 14, 127, 44, 43, 128, 129, 130, 131, 132, 133, 134, 48, 49, 135, 136, 137, 138, 139, 140, 141, 142, 143, 144, 145, 146, 147, 148, 149, 150, 151, 23, 152, 56, 153, 154, 155, 156, 157, 158, 159, 160, 161, 162, 163, 164, 956, 957, 930, 931, 932, 933, 934, 935, 936, 937, 958, 959, 960, 961, 962, 963, 964, 965, 966, 967] (by decide +kernel) (by decide +kernel)
set_option maxRecDepth 20000 in
theorem gL_law_X7_wipe : GoodIn wsL_law (wsV RL 18 RX7 yX7_wipe wsX7_wipe) := goodIn_app (goodIn_of _ (by decide +kernel)) ggL_law_X7_wipe
set_option maxRecDepth 20000 in
theorem ggL_law_X8_wipe : GoodIn wsL_law wsX8_wipe := goodIn_r _ [183, 86, 170, 171, 5, 172, 173, 174, 175, 938, 939, 940, 941, 942, 943, 944, 945, 946, 947, 948, 949, 950, 951, 952, 953, 954, 955] (by decide +kernel) (by decide +kernel)
set_option maxRecDepth 20000 in
theorem gL_law_X8_wipe : GoodIn wsL_law (wsV RL 22 RX8 yX8_wipe wsX8_wipe) := goodIn_app (goodIn_of _ (by decide +kernel)) ggL_law_X8_wipe
set_option maxRecDepth 20000 in
theorem ggL_law_X7_undo : GoodIn wsL_law wsX7_undo := goodIn_r _ [187, 99, 100, 101, 102, 2, 103, 15, 16, 111, 112, 113, 114, 20, 24, 115, 116, 117, 19, 118, 50, 119, 120, 121, 122, 123, 124, 125, 126, 14, 127, 44, 43, 128, 129, 130, 131, 132, 133, 134, 48, 49, 135, 136, 137, 138, 139, 140, 141, 142, 143, 144, 145, 146, 147, 148, 149, 150, 151, 23, 152, 56, 153, 154, 155, 156, 157, 158, 159, 160, 161, 162, 163, 164, 956, 957, 930, 931, 932, 933, 934, 935, 936, 937, 958, 959, 960, 961, 962, 963, 964, 965, 966, 967] (by decide +kernel) (by decide +kernel)
set_option maxRecDepth 20000 in
theorem gL_law_X7_undo : GoodIn wsL_law (wsV RL 23 RX7 yX7_undo wsX7_undo) := goodIn_app (goodIn_of _ (by decide +kernel)) ggL_law_X7_undo
set_option maxRecDepth 20000 in
theorem ggL_law_X8_undo : GoodIn wsL_law wsX8_undo := goodIn_r _ [191, 86, 170, 171, 5, 172, 173, 174, 175, 938, 939, 940, 941, 942, 943, 944, 945, 946, 947, 948, 949, 950, 951, 952, 953, 954, 955] (by decide +kernel) (by decide +kernel)
set_option maxRecDepth 20000 in
theorem gL_law_X8_undo : GoodIn wsL_law (wsV RL 26 RX8 yX8_undo wsX8_undo) := goodIn_app (goodIn_of _ (by decide +kernel)) ggL_law_X8_undo
set_option maxRecDepth 20000 in
theorem ggL_law_X7_fault : GoodIn wsL_law wsX7_fault := goodIn_r _ [195, 20, 196, 24, 197, 930, 931, 932, 933, 934, 935, 936, 937, 958, 959, 960, 961, 962, 963, 964, 965, 966, 967] (by decide +kernel) (by decide +kernel)
set_option maxRecDepth 20000 in
theorem gL_law_X7_fault : GoodIn wsL_law (wsV RL 27 RX7 yX7_fault wsX7_fault) := goodIn_app (goodIn_of _ (by decide +kernel)) ggL_law_X7_fault
set_option maxRecDepth 20000 in
theorem ggL_law_X8_fault : GoodIn wsL_law wsX8_fault := goodIn_r _ [201, 170, 171, 5, 172, 173, 174, 175, 202, 203, 204, 205, 206, 207, 86, 208, 209, 210, 211, 212, 213, 214, 215, 87, 216, 217, 218, 219, 85, 220, 221, 222, 223, 224, 225, 226, 227, 228, 229, 230, 231, 89, 232, 233, 234, 235, 938, 939, 940, 941, 942, 943, 944, 945, 946, 947, 948, 949, 950, 951, 952, 953, 954, 955] (by decide +kernel) (by decide +kernel)
set_option maxRecDepth 20000 in
theorem gL_law_X8_fault : GoodIn wsL_law (wsV RL 30 RX8 yX8_fault wsX8_fault) := goodIn_app (goodIn_of _ (by decide +kernel)) ggL_law_X8_fault
set_option maxRecDepth 20000 in
theorem ggL_law_X7_shape : GoodIn wsL_law wsX7_shape := goodIn_r _ [239, 20, 240, 241, 242, 2, 243, 244, 245, 246, 247, 248, 104, 105, 106, 249, 250, 251, 19, 252, 48, 930, 931, 932, 933, 934, 935, 936, 937, 958, 959, 960, 961] (by decide +kernel) (by decide +kernel)
set_option maxRecDepth 20000 in
theorem gL_law_X7_shape : GoodIn wsL_law (wsV RL 31 RX7 yX7_shape wsX7_shape) := goodIn_app (goodIn_of _ (by decide +kernel)) ggL_law_X7_shape
set_option maxRecDepth 20000 in
theorem ggL_law_X8_shape : GoodIn wsL_law wsX8_shape := goodIn_r _ [256, 87, 257, 258, 259, 5, 260, 202, 203, 204, 205, 206, 207, 86, 208, 209, 210, 211, 212, 213, 214, 215, 216, 217, 218, 219, 85, 173, 174, 175, 220, 221, 222, 223, 224, 225, 226, 227, 228, 229, 230, 231, 89, 232, 233, 234, 235, 261, 262, 263, 264, 265, 266, 267, 268, 269, 270, 271, 272, 273, 274, 275, 276, 277, 938, 939, 940, 941, 942, 943, 944, 945, 946, 947, 948, 949, 950, 951, 952, 953, 954, 955] (by decide +kernel) (by decide +kernel)
set_option maxRecDepth 20000 in
theorem gL_law_X8_shape : GoodIn wsL_law (wsV RL 34 RX8 yX8_shape wsX8_shape) := goodIn_app (goodIn_of _ (by decide +kernel)) ggL_law_X8_shape
set_option maxRecDepth 20000 in
theorem ggL_law_X7_made : GoodIn wsL_law wsX7_made := goodIn_r _ [281, 282, 283, 147, 137, 148, 142, 143, 144, 145, 284, 285, 286, 287, 288, 289, 290, 291] (by decide +kernel) (by decide +kernel)
set_option maxRecDepth 20000 in
theorem gL_law_X7_made : GoodIn wsL_law (wsV RL 35 RX7 yX7_made wsX7_made) := goodIn_app (goodIn_of _ (by decide +kernel)) ggL_law_X7_made
set_option maxRecDepth 20000 in
theorem ggL_law_X8_made : GoodIn wsL_law wsX8_made := goodIn_r _ [295, 296, 297, 173, 174, 5, 175, 272, 273, 274, 275, 276, 277, 298, 299, 300, 301, 302, 303, 304, 305] (by decide +kernel) (by decide +kernel)
set_option maxRecDepth 20000 in
theorem gL_law_X8_made : GoodIn wsL_law (wsV RL 38 RX8 yX8_made wsX8_made) := goodIn_app (goodIn_of _ (by decide +kernel)) ggL_law_X8_made
set_option maxRecDepth 20000 in
theorem ggL_law_X7_sight : GoodIn wsL_law wsX7_sight := goodIn_r _ [309, 20, 240, 241, 242, 2, 243, 244, 245, 246, 247, 248, 104, 105, 106, 310, 311, 312, 19, 313, 49, 930, 931, 932, 933, 934, 935, 936, 937, 958, 959, 960, 961] (by decide +kernel) (by decide +kernel)
set_option maxRecDepth 20000 in
theorem gL_law_X7_sight : GoodIn wsL_law (wsV RL 39 RX7 yX7_sight wsX7_sight) := goodIn_app (goodIn_of _ (by decide +kernel)) ggL_law_X7_sight
set_option maxRecDepth 20000 in
theorem ggL_law_X8_sight : GoodIn wsL_law wsX8_sight := goodIn_r _ [317, 268, 87, 257, 258, 259, 5, 260, 202, 203, 204, 205, 206, 207, 86, 208, 209, 210, 211, 212, 213, 214, 215, 216, 217, 218, 219, 85, 173, 174, 175, 220, 221, 222, 223, 224, 225, 226, 227, 228, 229, 230, 231, 89, 232, 233, 234, 235, 261, 262, 263, 264, 265, 266, 267, 269, 270, 271, 272, 273, 274, 275, 276, 277, 318, 319, 320, 321, 322, 323, 938, 939, 940, 941, 942, 943, 944, 945, 946, 947, 948, 949, 950, 951, 952, 953, 954, 955] (by decide +kernel) (by decide +kernel)
set_option maxRecDepth 20000 in
theorem gL_law_X8_sight : GoodIn wsL_law (wsV RL 43 RX8 yX8_sight wsX8_sight) := goodIn_app (goodIn_of _ (by decide +kernel)) ggL_law_X8_sight
set_option maxRecDepth 20000 in
theorem ggL_law_X7_form : GoodIn wsL_law wsX7_form := goodIn_r _ [327, 20, 244, 245, 246, 2, 247, 248, 104, 105, 106, 249, 250, 251, 19, 252, 48, 328, 329, 137, 330, 331, 332, 333, 334, 335, 336, 337, 338, 339, 340, 341, 342, 343, 930, 931, 932, 933, 934, 935, 936, 937, 958, 959, 960, 961] (by decide +kernel) (by decide +kernel)
set_option maxRecDepth 20000 in
theorem gL_law_X7_form : GoodIn wsL_law (wsV RL 44 RX7 yX7_form wsX7_form) := goodIn_app (goodIn_of _ (by decide +kernel)) ggL_law_X7_form
set_option maxRecDepth 20000 in
theorem ggL_law_X8_form : GoodIn wsL_law wsX8_form := goodIn_r _ [347, 297, 257, 258, 259, 5, 260, 202, 203, 204, 205, 206, 207, 86, 208, 209, 210, 211, 212, 213, 214, 215, 87, 216, 217, 218, 219, 85, 173, 174, 175, 220, 221, 222, 223, 224, 225, 226, 227, 228, 229, 230, 231, 89, 232, 233, 234, 235, 261, 262, 263, 264, 348, 349, 350, 351, 352, 353, 354, 355, 356, 357, 268, 275, 276, 277, 321, 322, 323, 358, 359, 360, 361, 362, 363, 938, 939, 940, 941, 942, 943, 944, 945, 946, 947, 948, 949, 950, 951, 952, 953, 954, 955] (by decide +kernel) (by decide +kernel)
set_option maxRecDepth 20000 in
theorem gL_law_X8_form : GoodIn wsL_law (wsV RL 47 RX8 yX8_form wsX8_form) := goodIn_app (goodIn_of _ (by decide +kernel)) ggL_law_X8_form
set_option maxRecDepth 20000 in
theorem ggL_law_X7_kin : GoodIn wsL_law wsX7_kin := goodIn_r _ [367, 20, 244, 245, 246, 2, 247, 248, 104, 105, 106, 249, 250, 251, 19, 252, 48, 284, 285, 137, 286, 142, 143, 144, 145, 368, 369, 370, 371, 120, 372, 373, 374, 375, 376, 288, 289, 290, 291, 377, 147, 148, 930, 931, 932, 933, 934, 935, 936, 937, 958, 959, 960, 961] (by decide +kernel) (by decide +kernel)
set_option maxRecDepth 20000 in
theorem gL_law_X7_kin : GoodIn wsL_law (wsV RL 48 RX7 yX7_kin wsX7_kin) := goodIn_app (goodIn_of _ (by decide +kernel)) ggL_law_X7_kin
set_option maxRecDepth 20000 in
theorem ggL_law_X8_kin : GoodIn wsL_law wsX8_kin := goodIn_r _ [381, 257, 258, 259, 5, 260, 202, 203, 204, 205, 206, 207, 86, 208, 209, 210, 211, 212, 213, 214, 215, 87, 216, 217, 218, 219, 85, 173, 174, 175, 220, 221, 222, 223, 224, 225, 226, 227, 228, 229, 230, 231, 89, 232, 233, 234, 235, 261, 262, 263, 264, 170, 171, 172, 382, 383, 384, 385, 298, 299, 300, 275, 276, 277, 386, 387, 388, 269, 270, 271, 272, 273, 274, 301, 302, 303, 304, 305, 938, 939, 940, 941, 942, 943, 944, 945, 946, 947, 948, 949, 950, 951, 952, 953, 954, 955] (by decide +kernel) (by decide +kernel)
set_option maxRecDepth 20000 in
theorem gL_law_X8_kin : GoodIn wsL_law (wsV RL 51 RX8 yX8_kin wsX8_kin) := goodIn_app (goodIn_of _ (by decide +kernel)) ggL_law_X8_kin
set_option maxRecDepth 20000 in
theorem ggL_law_X7_self : GoodIn wsL_law wsX7_self := goodIn_r _ [392, 20, 244, 245, 246, 2, 247, 248, 104, 105, 106, 249, 250, 251, 19, 252, 48, 393, 394, 137, 395, 376, 288, 289, 290, 291, 377, 147, 148, 142, 143, 144, 145, 930, 931, 932, 933, 934, 935, 936, 937, 958, 959, 960, 961] (by decide +kernel) (by decide +kernel)
set_option maxRecDepth 20000 in
theorem gL_law_X7_self : GoodIn wsL_law (wsV RL 52 RX7 yX7_self wsX7_self) := goodIn_app (goodIn_of _ (by decide +kernel)) ggL_law_X7_self
set_option maxRecDepth 20000 in
theorem ggL_law_X8_self : GoodIn wsL_law wsX8_self := goodIn_r _ [399, 257, 258, 259, 5, 260, 202, 203, 204, 205, 206, 207, 86, 208, 209, 210, 211, 212, 213, 214, 215, 87, 216, 217, 218, 219, 85, 173, 174, 175, 220, 221, 222, 223, 224, 225, 226, 227, 228, 229, 230, 231, 89, 232, 233, 234, 235, 261, 262, 263, 264, 400, 401, 402, 403, 269, 270, 271, 272, 273, 274, 275, 276, 277, 301, 302, 303, 304, 305, 938, 939, 940, 941, 942, 943, 944, 945, 946, 947, 948, 949, 950, 951, 952, 953, 954, 955] (by decide +kernel) (by decide +kernel)
set_option maxRecDepth 20000 in
theorem gL_law_X8_self : GoodIn wsL_law (wsV RL 55 RX8 yX8_self wsX8_self) := goodIn_app (goodIn_of _ (by decide +kernel)) ggL_law_X8_self
end
