section
set_option maxRecDepth 20000 in
theorem ggX7_withShape_X7_shape : GoodIn wsX7_withShape wsX7_shape := goodIn_r _ [6, 7, 8, 9, 10, 5, 11, 12, 13, 14, 15, 16, 17, 18, 19, 20, 21, 22, 23, 24, 25, 166, 167, 168, 169, 170, 171, 172, 173, 174, 175, 176, 177] (by decide +kernel) (by decide +kernel)
set_option maxRecDepth 20000 in
theorem gX7_withShape_X7_shape : GoodIn wsX7_withShape (wsV RX7 313 RX7 yX7_shape wsX7_shape) := goodIn_app (goodIn_of _ (by decide +kernel)) ggX7_withShape_X7_shape
set_option maxRecDepth 20000 in
theorem ggX7_withShape_X7_sight : GoodIn wsX7_withShape wsX7_sight := goodIn_r _ [29, 7, 8, 9, 10, 5, 11, 12, 13, 14, 15, 16, 17, 18, 19, 30, 31, 32, 23, 33, 34, 166, 167, 168, 169, 170, 171, 172, 173, 174, 175, 176, 177] (by decide +kernel) (by decide +kernel)
set_option maxRecDepth 20000 in
theorem gX7_withShape_X7_sight : GoodIn wsX7_withShape (wsV RX7 316 RX7 yX7_sight wsX7_sight) := goodIn_app (goodIn_of _ (by decide +kernel)) ggX7_withShape_X7_sight
set_option maxRecDepth 20000 in
theorem ggX7_withShape_X7_form : GoodIn wsX7_withShape wsX7_form := goodIn_r _ [38, 7, 12, 13, 14, 5, 15, 16, 17, 18, 19, 20, 21, 22, 23, 24, 25, 39, 40, 41, 42, 43, 44, 45, 46, 47, 48, 49, 50, 51, 52, 53, 54, 55, 166, 167, 168, 169, 170, 171, 172, 173, 174, 175, 176, 177] (by decide +kernel) (by decide +kernel)
set_option maxRecDepth 20000 in
theorem gX7_withShape_X7_form : GoodIn wsX7_withShape (wsV RX7 319 RX7 yX7_form wsX7_form) := goodIn_app (goodIn_of _ (by decide +kernel)) ggX7_withShape_X7_form
set_option maxRecDepth 20000 in
theorem ggX7_withShape_X7_kin : GoodIn wsX7_withShape wsX7_kin := goodIn_r _ [59, 7, 12, 13, 14, 5, 15, 16, 17, 18, 19, 20, 21, 22, 23, 24, 25, 60, 61, 41, 62, 63, 64, 65, 66, 67, 68, 69, 70, 71, 72, 73, 74, 75, 76, 77, 78, 79, 80, 81, 82, 83, 166, 167, 168, 169, 170, 171, 172, 173, 174, 175, 176, 177] (by decide +kernel) (by decide +kernel)
set_option maxRecDepth 20000 in
theorem gX7_withShape_X7_kin : GoodIn wsX7_withShape (wsV RX7 321 RX7 yX7_kin wsX7_kin) := goodIn_app (goodIn_of _ (by decide +kernel)) ggX7_withShape_X7_kin
set_option maxRecDepth 20000 in
theorem ggX7_withShape_X7_self : GoodIn wsX7_withShape wsX7_self := goodIn_r _ [87, 7, 12, 13, 14, 5, 15, 16, 17, 18, 19, 20, 21, 22, 23, 24, 25, 88, 89, 41, 90, 76, 77, 78, 79, 80, 81, 82, 83, 63, 64, 65, 66, 166, 167, 168, 169, 170, 171, 172, 173, 174, 175, 176, 177] (by decide +kernel) (by decide +kernel)
set_option maxRecDepth 20000 in
theorem gX7_withShape_X7_self : GoodIn wsX7_withShape (wsV RX7 324 RX7 yX7_self wsX7_self) := goodIn_app (goodIn_of _ (by decide +kernel)) ggX7_withShape_X7_self
set_option maxRecDepth 20000 in
theorem ggX7_withShape_X7_stands : GoodIn wsX7_withShape wsX7_stands := goodIn_r _ [94, 95, 96, 97, 5, 98, 8, 9, 10, 11, 12, 13, 14, 15, 7, 16, 17, 18, 19, 99, 100, 101, 102, 103, 20, 21, 22, 23, 24, 25, 104, 105, 106, 107, 108, 109, 110, 111, 112, 64, 41, 65, 66, 113, 114, 115, 166, 167, 168, 169, 170, 171, 172, 173, 174, 175, 176, 177, 178, 179, 180, 181, 182, 183] (by decide +kernel) (by decide +kernel)
set_option maxRecDepth 20000 in
theorem gX7_withShape_X7_stands : GoodIn wsX7_withShape (wsV RX7 327 RX7 yX7_stands wsX7_stands) := goodIn_app (goodIn_of _ (by decide +kernel)) ggX7_withShape_X7_stands
set_option maxRecDepth 20000 in
theorem ggX7_withShape_X7_through : GoodIn wsX7_withShape wsX7_through := goodIn_r _ [119, 120, 7, 103, 95, 96, 97, 5, 98, 8, 9, 10, 11, 12, 13, 14, 15, 16, 17, 18, 19, 99, 100, 101, 102, 20, 21, 22, 23, 24, 25, 104, 105, 106, 107, 108, 109, 110, 111, 112, 64, 41, 65, 66, 113, 114, 115, 121, 122, 123, 124, 125, 126, 127, 128, 129, 130, 131, 132, 133, 134, 135, 136, 137, 138, 139, 140, 141, 142, 143, 144, 145, 146, 147, 148, 149, 150, 166, 167, 168, 169, 170, 171, 172, 173, 174, 175, 176, 177, 178, 179, 180, 181, 182, 183, 184, 185, 186, 187] (by decide +kernel) (by decide +kernel)
set_option maxRecDepth 20000 in
theorem gX7_withShape_X7_through : GoodIn wsX7_withShape (wsV RX7 330 RX7 yX7_through wsX7_through) := goodIn_app (goodIn_of _ (by decide +kernel)) ggX7_withShape_X7_through
set_option maxRecDepth 20000 in
theorem ggX7_withShape_X7_reach : GoodIn wsX7_withShape wsX7_reach := goodIn_r _ [154, 120, 7, 103, 95, 96, 97, 5, 98, 8, 9, 10, 11, 12, 13, 14, 15, 16, 17, 18, 19, 99, 100, 101, 102, 20, 21, 22, 23, 24, 25, 104, 105, 106, 107, 108, 109, 110, 111, 112, 64, 41, 65, 66, 113, 114, 115, 121, 122, 123, 124, 125, 126, 127, 128, 129, 130, 155, 156, 157, 158, 135, 136, 137, 138, 140, 141, 142, 143, 144, 145, 146, 147, 148, 149, 150, 159, 160, 161, 162, 163, 164, 165, 166, 167, 168, 169, 170, 171, 172, 173, 174, 175, 176, 177, 178, 179, 180, 181, 182, 183, 184, 185, 186, 187] (by decide +kernel) (by decide +kernel)
set_option maxRecDepth 20000 in
theorem gX7_withShape_X7_reach : GoodIn wsX7_withShape (wsV RX7 333 RX7 yX7_reach wsX7_reach) := goodIn_app (goodIn_of _ (by decide +kernel)) ggX7_withShape_X7_reach
theorem dX7_withShape_0 : decode cX7_withShape 0 = .ok (.ldc2_w 278, 3) := by decide +kernel
theorem dX7_withShape_3 : decode cX7_withShape 3 = .ok (.lload_n 1, 1) := by decide +kernel
theorem dX7_withShape_4 : decode cX7_withShape 4 = .ok (.lmul, 1) := by decide +kernel
theorem dX7_withShape_5 : decode cX7_withShape 5 = .ok (.aload_n 0, 1) := by decide +kernel
theorem dX7_withShape_6 : decode cX7_withShape 6 = .ok (.iload_n 3, 1) := by decide +kernel
theorem dX7_withShape_7 : decode cX7_withShape 7 = .ok (.iconst 1, 1) := by decide +kernel
theorem dX7_withShape_8 : decode cX7_withShape 8 = .ok (.invokevirtual 313, 3) := by decide +kernel
theorem dX7_withShape_11 : decode cX7_withShape 11 = .ok (.i2l, 1) := by decide +kernel
theorem dX7_withShape_12 : decode cX7_withShape 12 = .ok (.ladd, 1) := by decide +kernel
theorem dX7_withShape_13 : decode cX7_withShape 13 = .ok (.lstore 4, 2) := by decide +kernel
theorem dX7_withShape_15 : decode cX7_withShape 15 = .ok (.iconst 0, 1) := by decide +kernel
theorem dX7_withShape_16 : decode cX7_withShape 16 = .ok (.istore 6, 2) := by decide +kernel
theorem dX7_withShape_18 : decode cX7_withShape 18 = .ok (.iload 6, 2) := by decide +kernel
theorem dX7_withShape_20 : decode cX7_withShape 20 = .ok (.iconst 4, 1) := by decide +kernel
theorem dX7_withShape_21 : decode cX7_withShape 21 = .ok (.if_icmp .ge 27, 3) := by decide +kernel
theorem dX7_withShape_24 : decode cX7_withShape 24 = .ok (.ldc2_w 278, 3) := by decide +kernel
theorem dX7_withShape_27 : decode cX7_withShape 27 = .ok (.lload 4, 2) := by decide +kernel
theorem dX7_withShape_29 : decode cX7_withShape 29 = .ok (.lmul, 1) := by decide +kernel
theorem dX7_withShape_30 : decode cX7_withShape 30 = .ok (.aload_n 0, 1) := by decide +kernel
theorem dX7_withShape_31 : decode cX7_withShape 31 = .ok (.iload_n 3, 1) := by decide +kernel
theorem dX7_withShape_32 : decode cX7_withShape 32 = .ok (.iconst 0, 1) := by decide +kernel
theorem dX7_withShape_33 : decode cX7_withShape 33 = .ok (.iload 6, 2) := by decide +kernel
theorem dX7_withShape_35 : decode cX7_withShape 35 = .ok (.invokevirtual 316, 3) := by decide +kernel
theorem dX7_withShape_38 : decode cX7_withShape 38 = .ok (.i2l, 1) := by decide +kernel
theorem dX7_withShape_39 : decode cX7_withShape 39 = .ok (.ladd, 1) := by decide +kernel
theorem dX7_withShape_40 : decode cX7_withShape 40 = .ok (.lstore 4, 2) := by decide +kernel
theorem dX7_withShape_42 : decode cX7_withShape 42 = .ok (.iinc 6 1, 3) := by decide +kernel
theorem dX7_withShape_45 : decode cX7_withShape 45 = .ok (.goto (-27), 3) := by decide +kernel
theorem dX7_withShape_48 : decode cX7_withShape 48 = .ok (.iconst 0, 1) := by decide +kernel
theorem dX7_withShape_49 : decode cX7_withShape 49 = .ok (.istore 6, 2) := by decide +kernel
theorem dX7_withShape_51 : decode cX7_withShape 51 = .ok (.iload 6, 2) := by decide +kernel
theorem dX7_withShape_53 : decode cX7_withShape 53 = .ok (.iconst 2, 1) := by decide +kernel
theorem dX7_withShape_54 : decode cX7_withShape 54 = .ok (.if_icmp .gt 26, 3) := by decide +kernel
theorem dX7_withShape_57 : decode cX7_withShape 57 = .ok (.ldc2_w 278, 3) := by decide +kernel
theorem dX7_withShape_60 : decode cX7_withShape 60 = .ok (.lload 4, 2) := by decide +kernel
theorem dX7_withShape_62 : decode cX7_withShape 62 = .ok (.lmul, 1) := by decide +kernel
theorem dX7_withShape_63 : decode cX7_withShape 63 = .ok (.aload_n 0, 1) := by decide +kernel
theorem dX7_withShape_64 : decode cX7_withShape 64 = .ok (.iload_n 3, 1) := by decide +kernel
theorem dX7_withShape_65 : decode cX7_withShape 65 = .ok (.iload 6, 2) := by decide +kernel
theorem dX7_withShape_67 : decode cX7_withShape 67 = .ok (.invokevirtual 319, 3) := by decide +kernel
theorem dX7_withShape_70 : decode cX7_withShape 70 = .ok (.i2l, 1) := by decide +kernel
theorem dX7_withShape_71 : decode cX7_withShape 71 = .ok (.ladd, 1) := by decide +kernel
theorem dX7_withShape_72 : decode cX7_withShape 72 = .ok (.lstore 4, 2) := by decide +kernel
theorem dX7_withShape_74 : decode cX7_withShape 74 = .ok (.iinc 6 1, 3) := by decide +kernel
theorem dX7_withShape_77 : decode cX7_withShape 77 = .ok (.goto (-26), 3) := by decide +kernel
theorem dX7_withShape_80 : decode cX7_withShape 80 = .ok (.ldc2_w 278, 3) := by decide +kernel
theorem dX7_withShape_83 : decode cX7_withShape 83 = .ok (.lload 4, 2) := by decide +kernel
theorem dX7_withShape_85 : decode cX7_withShape 85 = .ok (.lmul, 1) := by decide +kernel
theorem dX7_withShape_86 : decode cX7_withShape 86 = .ok (.aload_n 0, 1) := by decide +kernel
theorem dX7_withShape_87 : decode cX7_withShape 87 = .ok (.iload_n 3, 1) := by decide +kernel
theorem dX7_withShape_88 : decode cX7_withShape 88 = .ok (.iconst 0, 1) := by decide +kernel
theorem dX7_withShape_89 : decode cX7_withShape 89 = .ok (.invokevirtual 321, 3) := by decide +kernel
theorem dX7_withShape_92 : decode cX7_withShape 92 = .ok (.i2l, 1) := by decide +kernel
theorem dX7_withShape_93 : decode cX7_withShape 93 = .ok (.ladd, 1) := by decide +kernel
theorem dX7_withShape_94 : decode cX7_withShape 94 = .ok (.lstore 4, 2) := by decide +kernel
theorem dX7_withShape_96 : decode cX7_withShape 96 = .ok (.ldc2_w 278, 3) := by decide +kernel
theorem dX7_withShape_99 : decode cX7_withShape 99 = .ok (.lload 4, 2) := by decide +kernel
theorem dX7_withShape_101 : decode cX7_withShape 101 = .ok (.lmul, 1) := by decide +kernel
theorem dX7_withShape_102 : decode cX7_withShape 102 = .ok (.aload_n 0, 1) := by decide +kernel
theorem dX7_withShape_103 : decode cX7_withShape 103 = .ok (.iload_n 3, 1) := by decide +kernel
theorem dX7_withShape_104 : decode cX7_withShape 104 = .ok (.iconst 1, 1) := by decide +kernel
theorem dX7_withShape_105 : decode cX7_withShape 105 = .ok (.invokevirtual 321, 3) := by decide +kernel
theorem dX7_withShape_108 : decode cX7_withShape 108 = .ok (.i2l, 1) := by decide +kernel
theorem dX7_withShape_109 : decode cX7_withShape 109 = .ok (.ladd, 1) := by decide +kernel
theorem dX7_withShape_110 : decode cX7_withShape 110 = .ok (.lstore 4, 2) := by decide +kernel
theorem dX7_withShape_112 : decode cX7_withShape 112 = .ok (.ldc2_w 278, 3) := by decide +kernel
theorem dX7_withShape_115 : decode cX7_withShape 115 = .ok (.lload 4, 2) := by decide +kernel
theorem dX7_withShape_117 : decode cX7_withShape 117 = .ok (.lmul, 1) := by decide +kernel
theorem dX7_withShape_118 : decode cX7_withShape 118 = .ok (.aload_n 0, 1) := by decide +kernel
theorem dX7_withShape_119 : decode cX7_withShape 119 = .ok (.iload_n 3, 1) := by decide +kernel
theorem dX7_withShape_120 : decode cX7_withShape 120 = .ok (.invokevirtual 324, 3) := by decide +kernel
theorem dX7_withShape_123 : decode cX7_withShape 123 = .ok (.i2l, 1) := by decide +kernel
theorem dX7_withShape_124 : decode cX7_withShape 124 = .ok (.ladd, 1) := by decide +kernel
theorem dX7_withShape_125 : decode cX7_withShape 125 = .ok (.lstore 4, 2) := by decide +kernel
theorem dX7_withShape_127 : decode cX7_withShape 127 = .ok (.ldc2_w 278, 3) := by decide +kernel
theorem dX7_withShape_130 : decode cX7_withShape 130 = .ok (.lload 4, 2) := by decide +kernel
theorem dX7_withShape_132 : decode cX7_withShape 132 = .ok (.lmul, 1) := by decide +kernel
theorem dX7_withShape_133 : decode cX7_withShape 133 = .ok (.aload_n 0, 1) := by decide +kernel
theorem dX7_withShape_134 : decode cX7_withShape 134 = .ok (.iload_n 3, 1) := by decide +kernel
theorem dX7_withShape_135 : decode cX7_withShape 135 = .ok (.iconst 0, 1) := by decide +kernel
theorem dX7_withShape_136 : decode cX7_withShape 136 = .ok (.iconst 0, 1) := by decide +kernel
theorem dX7_withShape_137 : decode cX7_withShape 137 = .ok (.invokevirtual 327, 3) := by decide +kernel
theorem dX7_withShape_140 : decode cX7_withShape 140 = .ok (.i2l, 1) := by decide +kernel
theorem dX7_withShape_141 : decode cX7_withShape 141 = .ok (.ladd, 1) := by decide +kernel
theorem dX7_withShape_142 : decode cX7_withShape 142 = .ok (.lstore 4, 2) := by decide +kernel
theorem dX7_withShape_144 : decode cX7_withShape 144 = .ok (.ldc2_w 278, 3) := by decide +kernel
theorem dX7_withShape_147 : decode cX7_withShape 147 = .ok (.lload 4, 2) := by decide +kernel
theorem dX7_withShape_149 : decode cX7_withShape 149 = .ok (.lmul, 1) := by decide +kernel
theorem dX7_withShape_150 : decode cX7_withShape 150 = .ok (.aload_n 0, 1) := by decide +kernel
theorem dX7_withShape_151 : decode cX7_withShape 151 = .ok (.iload_n 3, 1) := by decide +kernel
theorem dX7_withShape_152 : decode cX7_withShape 152 = .ok (.iconst 0, 1) := by decide +kernel
theorem dX7_withShape_153 : decode cX7_withShape 153 = .ok (.iconst 0, 1) := by decide +kernel
theorem dX7_withShape_154 : decode cX7_withShape 154 = .ok (.iconst 1, 1) := by decide +kernel
theorem dX7_withShape_155 : decode cX7_withShape 155 = .ok (.bipush 9, 2) := by decide +kernel
theorem dX7_withShape_157 : decode cX7_withShape 157 = .ok (.invokevirtual 330, 3) := by decide +kernel
theorem dX7_withShape_160 : decode cX7_withShape 160 = .ok (.i2l, 1) := by decide +kernel
theorem dX7_withShape_161 : decode cX7_withShape 161 = .ok (.ladd, 1) := by decide +kernel
theorem dX7_withShape_162 : decode cX7_withShape 162 = .ok (.lstore 4, 2) := by decide +kernel
theorem dX7_withShape_164 : decode cX7_withShape 164 = .ok (.ldc2_w 278, 3) := by decide +kernel
theorem dX7_withShape_167 : decode cX7_withShape 167 = .ok (.lload 4, 2) := by decide +kernel
theorem dX7_withShape_169 : decode cX7_withShape 169 = .ok (.lmul, 1) := by decide +kernel
theorem dX7_withShape_170 : decode cX7_withShape 170 = .ok (.aload_n 0, 1) := by decide +kernel
theorem dX7_withShape_171 : decode cX7_withShape 171 = .ok (.iload_n 3, 1) := by decide +kernel
theorem dX7_withShape_172 : decode cX7_withShape 172 = .ok (.iconst 0, 1) := by decide +kernel
theorem dX7_withShape_173 : decode cX7_withShape 173 = .ok (.iconst 0, 1) := by decide +kernel
theorem dX7_withShape_174 : decode cX7_withShape 174 = .ok (.invokevirtual 333, 3) := by decide +kernel
theorem dX7_withShape_177 : decode cX7_withShape 177 = .ok (.i2l, 1) := by decide +kernel
theorem dX7_withShape_178 : decode cX7_withShape 178 = .ok (.ladd, 1) := by decide +kernel
theorem dX7_withShape_179 : decode cX7_withShape 179 = .ok (.lreturn, 1) := by decide +kernel
theorem lk_X7_withShape_0 : Cond.constantLong RX7 278 31 ∈ wsX7_withShape := by decide +kernel
set_option maxRecDepth 100000 in
theorem r_X7_withShape_0 {X : Bn} (C : Cx X cX7_withShape 7 RX7 wsX7_withShape 5 114) (ad : Nat → Nat) (S : MS) (x1 : Int64) (x3 : Int32) (h : ∃ (r1 : Int32) (S1 : MS), (Fn X.l X.D X.E X.a1 X.a2 yX7_shape wsX7_shape 3 64 [.ref (ad 0), .int x3, .int 1] (cW X.E ad S) (some (.int r1)) (cW X.E ad S1)) ∧ (At X 7 (cW X.E ad S1) 18 [(0, .ref (ad 0)), (3, .int x3), (4, .long ((31 * x1) + r1.toInt64)), (6, .int 0)] [])) : At X 7 (cW X.E ad S) 0 [(0, .ref (ad 0)), (1, .long x1), (3, .int x3)] [] := by
  refine at_ldc2 C lk_X7_withShape_0 dX7_withShape_0 ?_
  refine at_lload_n C dX7_withShape_3 rfl (j := 1) rfl ?_
  refine at_lmul C dX7_withShape_4 ?_
  refine at_aload_n C dX7_withShape_5 rfl (j := 0) rfl ?_
  refine at_iload_n C dX7_withShape_6 rfl (j := 2) rfl ?_
  refine at_iconst C dX7_withShape_7 (v := 1) rfl ?_
  obtain ⟨r1, S1, hF1, h⟩ := h
  refine at_cV1 C 2 hF1 gX7_withShape_X7_shape rfl (by decide +kernel) ⟨rfl, rfl⟩ rfl rfl rfl 0 cW_c0 rfl dX7_withShape_8 ?_
  refine at_i2l C dX7_withShape_11 ?_
  refine at_ladd C dX7_withShape_12 ?_
  refine at_lstore C dX7_withShape_13 (by decide) (lv' := [(4, .long ((31 * x1) + r1.toInt64)), (0, .ref (ad 0)), (1, .long x1), (3, .int x3)]) rfl ?_
  refine at_iconst C dX7_withShape_15 (v := 0) rfl ?_
  refine at_istore C dX7_withShape_16 (by decide) (lv' := [(6, .int 0), (4, .long ((31 * x1) + r1.toInt64)), (0, .ref (ad 0)), (1, .long x1), (3, .int x3)]) rfl ?_
  refine at_lv [2, 4, 1, 0] rfl ?_
  exact h
set_option maxRecDepth 100000 in
theorem r_X7_withShape_18 {X : Bn} (C : Cx X cX7_withShape 7 RX7 wsX7_withShape 5 114) (ad : Nat → Nat) (S : MS) (x3 : Int32) (x4 : Int64) (x6 : Int32) (h : ((4 ≤ x6) → (At X 7 (cW X.E ad S) 51 [(0, .ref (ad 0)), (3, .int x3), (4, .long x4), (6, .int 0)] [])) ∧ (¬ 4 ≤ x6 → (∃ (r2 : Int32) (S2 : MS), (Fn X.l X.D X.E X.a1 X.a2 yX7_sight wsX7_sight 3 64 [.ref (ad 0), .int x3, .int 0, .int x6] (cW X.E ad S) (some (.int r2)) (cW X.E ad S2)) ∧ (At X 7 (cW X.E ad S2) 18 [(0, .ref (ad 0)), (3, .int x3), (4, .long ((31 * x4) + r2.toInt64)), (6, .int (x6 + 1))] [])))) : At X 7 (cW X.E ad S) 18 [(0, .ref (ad 0)), (3, .int x3), (4, .long x4), (6, .int x6)] [] := by
  refine at_iload C dX7_withShape_18 (j := 3) rfl ?_
  refine at_iconst C dX7_withShape_20 (v := 4) rfl ?_
  refine at_icmp_ge C dX7_withShape_21 (tgt := 48) (by decide) (fun hc0 => ?_) (fun hc0 => ?_)
  · replace h := h.1 hc0
    refine at_iconst C dX7_withShape_48 (v := 0) rfl ?_
    refine at_istore C dX7_withShape_49 (by decide) (lv' := [(6, .int 0), (0, .ref (ad 0)), (3, .int x3), (4, .long x4)]) rfl ?_
    refine at_lv [1, 2, 3, 0] rfl ?_
    exact h
  · replace h := h.2 hc0
    refine at_ldc2 C lk_X7_withShape_0 dX7_withShape_24 ?_
    refine at_lload C dX7_withShape_27 (j := 2) rfl ?_
    refine at_lmul C dX7_withShape_29 ?_
    refine at_aload_n C dX7_withShape_30 rfl (j := 0) rfl ?_
    refine at_iload_n C dX7_withShape_31 rfl (j := 1) rfl ?_
    refine at_iconst C dX7_withShape_32 (v := 0) rfl ?_
    refine at_iload C dX7_withShape_33 (j := 3) rfl ?_
    obtain ⟨r2, S2, hF2, h⟩ := h
    refine at_cV1 C 3 hF2 gX7_withShape_X7_sight rfl (by decide +kernel) ⟨rfl, rfl⟩ rfl rfl rfl 0 cW_c0 rfl dX7_withShape_35 ?_
    refine at_i2l C dX7_withShape_38 ?_
    refine at_ladd C dX7_withShape_39 ?_
    refine at_lstore C dX7_withShape_40 (by decide) (lv' := [(4, .long ((31 * x4) + r2.toInt64)), (0, .ref (ad 0)), (3, .int x3), (6, .int x6)]) rfl ?_
    refine at_iinc C dX7_withShape_42 (j := 3) (v := x6 + 1) rfl rfl (by decide) (lv' := [(6, .int (x6 + 1)), (4, .long ((31 * x4) + r2.toInt64)), (0, .ref (ad 0)), (3, .int x3)]) rfl ?_
    refine at_goto C dX7_withShape_45 (tgt := 18) (by decide) ?_
    refine at_lv [2, 3, 1, 0] rfl ?_
    exact h
set_option maxRecDepth 100000 in
theorem r_X7_withShape_51 {X : Bn} (C : Cx X cX7_withShape 7 RX7 wsX7_withShape 5 114) (ad : Nat → Nat) (S : MS) (x3 : Int32) (x4 : Int64) (x6 : Int32) (h : ((2 < x6) → (∃ (r3 : Int32) (S3 : MS), (Fn X.l X.D X.E X.a1 X.a2 yX7_kin wsX7_kin 4 91 [.ref (ad 0), .int x3, .int 0] (cW X.E ad S) (some (.int r3)) (cW X.E ad S3)) ∧ (∃ (r4 : Int32) (S4 : MS), (Fn X.l X.D X.E X.a1 X.a2 yX7_kin wsX7_kin 4 91 [.ref (ad 0), .int x3, .int 1] (cW X.E ad S3) (some (.int r4)) (cW X.E ad S4)) ∧ (∃ (r5 : Int32) (S5 : MS), (Fn X.l X.D X.E X.a1 X.a2 yX7_self wsX7_self 3 67 [.ref (ad 0), .int x3] (cW X.E ad S4) (some (.int r5)) (cW X.E ad S5)) ∧ (∃ (r6 : Int32) (S6 : MS), (Fn X.l X.D X.E X.a1 X.a2 yX7_stands wsX7_stands 4 87 [.ref (ad 0), .int x3, .int 0, .int 0] (cW X.E ad S5) (some (.int r6)) (cW X.E ad S6)) ∧ (∃ (r7 : Int32) (S7 : MS), (Fn X.l X.D X.E X.a1 X.a2 yX7_through wsX7_through 4 87 [.ref (ad 0), .int x3, .int 0, .int 0, .int 1, .int 9] (cW X.E ad S6) (some (.int r7)) (cW X.E ad S7)) ∧ (∃ (r8 : Int32) (S8 : MS), (Fn X.l X.D X.E X.a1 X.a2 yX7_reach wsX7_reach 4 87 [.ref (ad 0), .int x3, .int 0, .int 0] (cW X.E ad S7) (some (.int r8)) (cW X.E ad S8)) ∧ (Ends X (some .long) (some (.long ((31 * ((31 * ((31 * ((31 * ((31 * ((31 * x4) + r3.toInt64)) + r4.toInt64)) + r5.toInt64)) + r6.toInt64)) + r7.toInt64)) + r8.toInt64))) (cW X.E ad S8))))))))) ∧ (¬ 2 < x6 → (∃ (r9 : Int32) (S9 : MS), (Fn X.l X.D X.E X.a1 X.a2 yX7_form wsX7_form 2 42 [.ref (ad 0), .int x3, .int x6] (cW X.E ad S) (some (.int r9)) (cW X.E ad S9)) ∧ (At X 7 (cW X.E ad S9) 51 [(0, .ref (ad 0)), (3, .int x3), (4, .long ((31 * x4) + r9.toInt64)), (6, .int (x6 + 1))] [])))) : At X 7 (cW X.E ad S) 51 [(0, .ref (ad 0)), (3, .int x3), (4, .long x4), (6, .int x6)] [] := by
  refine at_iload C dX7_withShape_51 (j := 3) rfl ?_
  refine at_iconst C dX7_withShape_53 (v := 2) rfl ?_
  refine at_icmp_gt C dX7_withShape_54 (tgt := 80) (by decide) (fun hc1 => ?_) (fun hc1 => ?_)
  · replace h := h.1 hc1
    refine at_ldc2 C lk_X7_withShape_0 dX7_withShape_80 ?_
    refine at_lload C dX7_withShape_83 (j := 2) rfl ?_
    refine at_lmul C dX7_withShape_85 ?_
    refine at_aload_n C dX7_withShape_86 rfl (j := 0) rfl ?_
    refine at_iload_n C dX7_withShape_87 rfl (j := 1) rfl ?_
    refine at_iconst C dX7_withShape_88 (v := 0) rfl ?_
    obtain ⟨r3, S3, hF3, h⟩ := h
    refine at_cV1 C 2 hF3 gX7_withShape_X7_kin rfl (by decide +kernel) ⟨rfl, rfl⟩ rfl rfl rfl 0 cW_c0 rfl dX7_withShape_89 ?_
    refine at_i2l C dX7_withShape_92 ?_
    refine at_ladd C dX7_withShape_93 ?_
    refine at_lstore C dX7_withShape_94 (by decide) (lv' := [(4, .long ((31 * x4) + r3.toInt64)), (0, .ref (ad 0)), (3, .int x3), (6, .int x6)]) rfl ?_
    refine at_ldc2 C lk_X7_withShape_0 dX7_withShape_96 ?_
    refine at_lload C dX7_withShape_99 (j := 0) rfl ?_
    refine at_lmul C dX7_withShape_101 ?_
    refine at_aload_n C dX7_withShape_102 rfl (j := 1) rfl ?_
    refine at_iload_n C dX7_withShape_103 rfl (j := 2) rfl ?_
    refine at_iconst C dX7_withShape_104 (v := 1) rfl ?_
    obtain ⟨r4, S4, hF4, h⟩ := h
    refine at_cV1 C 2 hF4 gX7_withShape_X7_kin rfl (by decide +kernel) ⟨rfl, rfl⟩ rfl rfl rfl 0 cW_c0 rfl dX7_withShape_105 ?_
    refine at_i2l C dX7_withShape_108 ?_
    refine at_ladd C dX7_withShape_109 ?_
    refine at_lstore C dX7_withShape_110 (by decide) (lv' := [(4, .long ((31 * ((31 * x4) + r3.toInt64)) + r4.toInt64)), (0, .ref (ad 0)), (3, .int x3), (6, .int x6)]) rfl ?_
    refine at_ldc2 C lk_X7_withShape_0 dX7_withShape_112 ?_
    refine at_lload C dX7_withShape_115 (j := 0) rfl ?_
    refine at_lmul C dX7_withShape_117 ?_
    refine at_aload_n C dX7_withShape_118 rfl (j := 1) rfl ?_
    refine at_iload_n C dX7_withShape_119 rfl (j := 2) rfl ?_
    obtain ⟨r5, S5, hF5, h⟩ := h
    refine at_cV1 C 1 hF5 gX7_withShape_X7_self rfl (by decide +kernel) ⟨rfl, rfl⟩ rfl rfl rfl 0 cW_c0 rfl dX7_withShape_120 ?_
    refine at_i2l C dX7_withShape_123 ?_
    refine at_ladd C dX7_withShape_124 ?_
    refine at_lstore C dX7_withShape_125 (by decide) (lv' := [(4, .long ((31 * ((31 * ((31 * x4) + r3.toInt64)) + r4.toInt64)) + r5.toInt64)), (0, .ref (ad 0)), (3, .int x3), (6, .int x6)]) rfl ?_
    refine at_ldc2 C lk_X7_withShape_0 dX7_withShape_127 ?_
    refine at_lload C dX7_withShape_130 (j := 0) rfl ?_
    refine at_lmul C dX7_withShape_132 ?_
    refine at_aload_n C dX7_withShape_133 rfl (j := 1) rfl ?_
    refine at_iload_n C dX7_withShape_134 rfl (j := 2) rfl ?_
    refine at_iconst C dX7_withShape_135 (v := 0) rfl ?_
    refine at_iconst C dX7_withShape_136 (v := 0) rfl ?_
    obtain ⟨r6, S6, hF6, h⟩ := h
    refine at_cV1 C 3 hF6 gX7_withShape_X7_stands rfl (by decide +kernel) ⟨rfl, rfl⟩ rfl rfl rfl 0 cW_c0 rfl dX7_withShape_137 ?_
    refine at_i2l C dX7_withShape_140 ?_
    refine at_ladd C dX7_withShape_141 ?_
    refine at_lstore C dX7_withShape_142 (by decide) (lv' := [(4, .long ((31 * ((31 * ((31 * ((31 * x4) + r3.toInt64)) + r4.toInt64)) + r5.toInt64)) + r6.toInt64)), (0, .ref (ad 0)), (3, .int x3), (6, .int x6)]) rfl ?_
    refine at_ldc2 C lk_X7_withShape_0 dX7_withShape_144 ?_
    refine at_lload C dX7_withShape_147 (j := 0) rfl ?_
    refine at_lmul C dX7_withShape_149 ?_
    refine at_aload_n C dX7_withShape_150 rfl (j := 1) rfl ?_
    refine at_iload_n C dX7_withShape_151 rfl (j := 2) rfl ?_
    refine at_iconst C dX7_withShape_152 (v := 0) rfl ?_
    refine at_iconst C dX7_withShape_153 (v := 0) rfl ?_
    refine at_iconst C dX7_withShape_154 (v := 1) rfl ?_
    refine at_bipush C dX7_withShape_155 (v := 9) rfl ?_
    obtain ⟨r7, S7, hF7, h⟩ := h
    refine at_cV1 C 5 hF7 gX7_withShape_X7_through rfl (by decide +kernel) ⟨rfl, rfl⟩ rfl rfl rfl 0 cW_c0 rfl dX7_withShape_157 ?_
    refine at_i2l C dX7_withShape_160 ?_
    refine at_ladd C dX7_withShape_161 ?_
    refine at_lstore C dX7_withShape_162 (by decide) (lv' := [(4, .long ((31 * ((31 * ((31 * ((31 * ((31 * x4) + r3.toInt64)) + r4.toInt64)) + r5.toInt64)) + r6.toInt64)) + r7.toInt64)), (0, .ref (ad 0)), (3, .int x3), (6, .int x6)]) rfl ?_
    refine at_ldc2 C lk_X7_withShape_0 dX7_withShape_164 ?_
    refine at_lload C dX7_withShape_167 (j := 0) rfl ?_
    refine at_lmul C dX7_withShape_169 ?_
    refine at_aload_n C dX7_withShape_170 rfl (j := 1) rfl ?_
    refine at_iload_n C dX7_withShape_171 rfl (j := 2) rfl ?_
    refine at_iconst C dX7_withShape_172 (v := 0) rfl ?_
    refine at_iconst C dX7_withShape_173 (v := 0) rfl ?_
    obtain ⟨r8, S8, hF8, h⟩ := h
    refine at_cV1 C 3 hF8 gX7_withShape_X7_reach rfl (by decide +kernel) ⟨rfl, rfl⟩ rfl rfl rfl 0 cW_c0 rfl dX7_withShape_174 ?_
    refine at_i2l C dX7_withShape_177 ?_
    refine at_ladd C dX7_withShape_178 ?_
    exact at_lret C dX7_withShape_179 h
  · replace h := h.2 hc1
    refine at_ldc2 C lk_X7_withShape_0 dX7_withShape_57 ?_
    refine at_lload C dX7_withShape_60 (j := 2) rfl ?_
    refine at_lmul C dX7_withShape_62 ?_
    refine at_aload_n C dX7_withShape_63 rfl (j := 0) rfl ?_
    refine at_iload_n C dX7_withShape_64 rfl (j := 1) rfl ?_
    refine at_iload C dX7_withShape_65 (j := 3) rfl ?_
    obtain ⟨r9, S9, hF9, h⟩ := h
    refine at_cV1 C 2 hF9 gX7_withShape_X7_form rfl (by decide +kernel) ⟨rfl, rfl⟩ rfl rfl rfl 0 cW_c0 rfl dX7_withShape_67 ?_
    refine at_i2l C dX7_withShape_70 ?_
    refine at_ladd C dX7_withShape_71 ?_
    refine at_lstore C dX7_withShape_72 (by decide) (lv' := [(4, .long ((31 * x4) + r9.toInt64)), (0, .ref (ad 0)), (3, .int x3), (6, .int x6)]) rfl ?_
    refine at_iinc C dX7_withShape_74 (j := 3) (v := x6 + 1) rfl rfl (by decide) (lv' := [(6, .int (x6 + 1)), (4, .long ((31 * x4) + r9.toInt64)), (0, .ref (ad 0)), (3, .int x3)]) rfl ?_
    refine at_goto C dX7_withShape_77 (tgt := 51) (by decide) ?_
    refine at_lv [2, 3, 1, 0] rfl ?_
    exact h
set_option maxRecDepth 20000 in
theorem ggX7_digest_X7_count : GoodIn wsX7_digest wsX7_count := goodIn_r _ [9, 3, 4, 10, 11, 12, 13, 14, 15, 16, 17, 18, 19, 20, 21, 22, 23, 24, 25, 26, 27, 28, 29, 30, 31, 32, 33, 34, 35, 36, 37, 38, 39, 40, 41, 42, 43, 44, 45, 46, 47, 48, 49, 50, 51, 52, 53, 54, 55, 56, 57, 58, 59, 60, 61, 62, 63, 64, 65, 66, 67, 68, 69, 70, 71, 72, 73, 74, 319, 320, 321, 322, 323, 324, 325, 326, 327, 328, 329, 330, 331, 332, 333, 334, 335, 336, 337, 338, 339, 340, 341, 342] (by decide +kernel) (by decide +kernel)
set_option maxRecDepth 20000 in
theorem gX7_digest_X7_count : GoodIn wsX7_digest (wsV RX7 280 RX7 yX7_count wsX7_count) := goodIn_app (goodIn_of _ (by decide +kernel)) ggX7_digest_X7_count
set_option maxRecDepth 20000 in
theorem ggX7_digest_X7_fault : GoodIn wsX7_digest wsX7_fault := goodIn_r _ [78, 3, 79, 10, 80, 319, 320, 321, 322, 323, 324, 325, 326, 327, 328, 329, 330, 331, 332, 333, 334, 335, 336] (by decide +kernel) (by decide +kernel)
set_option maxRecDepth 20000 in
theorem gX7_digest_X7_fault : GoodIn wsX7_digest (wsV RX7 282 RX7 yX7_fault wsX7_fault) := goodIn_app (goodIn_of _ (by decide +kernel)) ggX7_digest_X7_fault
set_option maxRecDepth 20000 in
theorem ggX7_digest_X7_withShape : GoodIn wsX7_digest wsX7_withShape := goodIn_r _ [84, 2, 85, 86, 87, 8, 88, 3, 89, 90, 91, 92, 93, 94, 95, 96, 4, 97, 98, 99, 100, 32, 33, 28, 34, 35, 101, 102, 103, 104, 105, 106, 107, 108, 109, 110, 111, 112, 113, 114, 48, 49, 50, 51, 52, 115, 116, 117, 118, 37, 38, 39, 40, 41, 42, 119, 120, 121, 122, 123, 124, 58, 59, 60, 61, 62, 63, 125, 126, 127, 128, 30, 31, 64, 65, 66, 67, 68, 69, 70, 71, 72, 73, 74, 129, 130, 131, 132, 133, 134, 135, 136, 137, 138, 139, 140, 141, 142, 143, 144, 145, 146, 147, 10, 148, 149, 150, 151, 152, 153, 154, 155, 156, 157, 158, 159, 160, 161, 162, 163, 164, 165, 166, 167, 168, 169, 170, 171, 172, 173, 174, 175, 176, 177, 178, 179, 180, 181, 182, 183, 184, 185, 186, 187, 188, 189, 190, 191, 192, 193, 194, 195, 196, 197, 198, 199, 200, 201, 202, 203, 19, 20, 21, 22, 23, 24, 319, 320, 321, 322, 323, 324, 325, 326, 327, 328, 329, 330, 331, 332, 333, 334, 335, 336, 343, 344, 345, 346] (by decide +kernel) (by decide +kernel)
set_option maxRecDepth 20000 in
theorem gX7_digest_X7_withShape : GoodIn wsX7_digest (wsV RX7 285 RX7 yX7_withShape wsX7_withShape) := goodIn_app (goodIn_of _ (by decide +kernel)) ggX7_digest_X7_withShape
set_option maxRecDepth 20000 in
theorem ggX7_digest_X7_fits : GoodIn wsX7_digest wsX7_fits := goodIn_r _ [207, 15, 3, 97, 98, 8, 99, 208, 209, 210, 211, 212, 213, 214, 215, 216, 217, 218, 219, 220, 221, 106, 107, 28, 108, 109, 222, 223, 224, 225, 319, 320, 321, 322, 323, 324, 325, 326, 327, 328, 329, 330, 339, 340, 341, 342] (by decide +kernel) (by decide +kernel)
set_option maxRecDepth 20000 in
theorem gX7_digest_X7_fits : GoodIn wsX7_digest (wsV RX7 289 RX7 yX7_fits wsX7_fits) := goodIn_app (goodIn_of _ (by decide +kernel)) ggX7_digest_X7_fits
set_option maxRecDepth 20000 in
theorem ggX7_digest_X7_look : GoodIn wsX7_digest wsX7_look := goodIn_r _ [229, 15, 3, 97, 98, 8, 99, 208, 209, 210, 211, 212, 213, 214, 215, 216, 217, 218, 219, 220, 221, 106, 107, 28, 108, 109, 230, 231, 232, 233, 234, 235, 236, 237, 238, 239, 240, 241, 242, 243, 37, 38, 39, 40, 41, 42, 319, 320, 321, 322, 323, 324, 325, 326, 327, 328, 329, 330, 339, 340, 341, 342] (by decide +kernel) (by decide +kernel)
set_option maxRecDepth 20000 in
theorem gX7_digest_X7_look : GoodIn wsX7_digest (wsV RX7 292 RX7 yX7_look wsX7_look) := goodIn_app (goodIn_of _ (by decide +kernel)) ggX7_digest_X7_look
set_option maxRecDepth 20000 in
theorem ggX7_digest_X7_view : GoodIn wsX7_digest wsX7_view := goodIn_r _ [247, 10, 248, 249, 250, 151, 251, 155, 252, 158, 159, 98, 8, 99, 253, 254, 255, 256, 257, 258, 259, 260, 261, 262, 18, 19, 20, 21, 22, 23, 24, 319, 320, 321, 322, 323, 324, 325, 326, 331, 332, 333, 334, 335, 336] (by decide +kernel) (by decide +kernel)
set_option maxRecDepth 20000 in
theorem gX7_digest_X7_view : GoodIn wsX7_digest (wsV RX7 255 RX7 yX7_view wsX7_view) := goodIn_app (goodIn_of _ (by decide +kernel)) ggX7_digest_X7_view
set_option maxRecDepth 20000 in
theorem ggX7_digest_X7_sees : GoodIn wsX7_digest wsX7_sees := goodIn_r _ [266, 10, 248, 249, 250, 151, 251, 155, 252, 158, 159, 98, 8, 99, 253, 254, 255, 256, 257, 258, 259, 260, 261, 262, 157, 319, 320, 321, 322, 323, 324, 325, 326, 331, 332, 333, 334, 335, 336] (by decide +kernel) (by decide +kernel)
set_option maxRecDepth 20000 in
theorem gX7_digest_X7_sees : GoodIn wsX7_digest (wsV RX7 295 RX7 yX7_sees wsX7_sees) := goodIn_app (goodIn_of _ (by decide +kernel)) ggX7_digest_X7_sees
set_option maxRecDepth 20000 in
theorem ggX7_digest_X7_watchers : GoodIn wsX7_digest wsX7_watchers := goodIn_r _ [270, 10, 271, 272, 273, 97, 98, 8, 99, 274, 275, 276, 151, 277, 278, 279, 280, 155, 281, 282, 249, 250, 251, 252, 158, 159, 283, 254, 255, 256, 257, 258, 259, 260, 261, 262, 284, 285, 286, 287, 319, 320, 321, 322, 323, 324, 325, 326, 331, 332, 333, 334, 335, 336] (by decide +kernel) (by decide +kernel)
set_option maxRecDepth 20000 in
theorem gX7_digest_X7_watchers : GoodIn wsX7_digest (wsV RX7 298 RX7 yX7_watchers wsX7_watchers) := goodIn_app (goodIn_of _ (by decide +kernel)) ggX7_digest_X7_watchers
set_option maxRecDepth 20000 in
theorem ggX7_digest_X7_echoes : GoodIn wsX7_digest wsX7_echoes := goodIn_r _ [291, 10, 292, 293, 8, 294, 97, 98, 99, 248, 249, 250, 151, 251, 155, 252, 158, 159, 295, 296, 297, 298, 259, 260, 261, 262, 257, 258, 319, 320, 321, 322, 323, 324, 325, 326, 331, 332, 333, 334, 335, 336] (by decide +kernel) (by decide +kernel)
set_option maxRecDepth 20000 in
theorem gX7_digest_X7_echoes : GoodIn wsX7_digest (wsV RX7 301 RX7 yX7_echoes wsX7_echoes) := goodIn_app (goodIn_of _ (by decide +kernel)) ggX7_digest_X7_echoes
set_option maxRecDepth 20000 in
theorem ggX7_digest_X7_fog : GoodIn wsX7_digest wsX7_fog := goodIn_r _ [302, 10, 303, 304, 305, 248, 249, 250, 151, 251, 155, 252, 158, 159, 98, 8, 99, 97, 253, 254, 255, 256, 257, 258, 259, 260, 261, 262, 157, 306, 307, 308, 309, 310, 237, 311, 319, 320, 321, 322, 323, 324, 325, 326, 331, 332, 333, 334, 335, 336] (by decide +kernel) (by decide +kernel)
set_option maxRecDepth 20000 in
theorem gX7_digest_X7_fog : GoodIn wsX7_digest (wsV RX7 305 RX7 yX7_fog wsX7_fog) := goodIn_app (goodIn_of _ (by decide +kernel)) ggX7_digest_X7_fog
set_option maxRecDepth 20000 in
theorem ggX7_digest_X7_meet : GoodIn wsX7_digest wsX7_meet := goodIn_r _ [315, 3, 140, 141, 142, 8, 143, 89, 90, 91, 92, 93, 94, 95, 96, 4, 97, 98, 99, 144, 145, 146, 147, 10, 100, 32, 33, 28, 34, 35, 148, 149, 150, 151, 152, 153, 154, 155, 156, 61, 49, 62, 63, 157, 158, 159, 316, 317, 318, 319, 320, 321, 322, 323, 324, 325, 326, 327, 328, 329, 330, 331, 332, 333, 334, 335, 336] (by decide +kernel) (by decide +kernel)
set_option maxRecDepth 20000 in
theorem gX7_digest_X7_meet : GoodIn wsX7_digest (wsV RX7 309 RX7 yX7_meet wsX7_meet) := goodIn_app (goodIn_of _ (by decide +kernel)) ggX7_digest_X7_meet
theorem dX7_digest_0 : decode cX7_digest 0 = .ok (.ldc2_w 276, 3) := by decide +kernel
theorem dX7_digest_3 : decode cX7_digest 3 = .ok (.lstore_n 1, 1) := by decide +kernel
theorem dX7_digest_4 : decode cX7_digest 4 = .ok (.iconst 0, 1) := by decide +kernel
theorem dX7_digest_5 : decode cX7_digest 5 = .ok (.istore_n 3, 1) := by decide +kernel
theorem dX7_digest_6 : decode cX7_digest 6 = .ok (.iload_n 3, 1) := by decide +kernel
theorem dX7_digest_7 : decode cX7_digest 7 = .ok (.bipush 7, 2) := by decide +kernel
theorem dX7_digest_9 : decode cX7_digest 9 = .ok (.if_icmp .gt 22, 3) := by decide +kernel
theorem dX7_digest_12 : decode cX7_digest 12 = .ok (.ldc2_w 278, 3) := by decide +kernel
theorem dX7_digest_15 : decode cX7_digest 15 = .ok (.lload_n 1, 1) := by decide +kernel
theorem dX7_digest_16 : decode cX7_digest 16 = .ok (.lmul, 1) := by decide +kernel
theorem dX7_digest_17 : decode cX7_digest 17 = .ok (.aload_n 0, 1) := by decide +kernel
theorem dX7_digest_18 : decode cX7_digest 18 = .ok (.iload_n 3, 1) := by decide +kernel
theorem dX7_digest_19 : decode cX7_digest 19 = .ok (.invokevirtual 280, 3) := by decide +kernel
theorem dX7_digest_22 : decode cX7_digest 22 = .ok (.i2l, 1) := by decide +kernel
theorem dX7_digest_23 : decode cX7_digest 23 = .ok (.ladd, 1) := by decide +kernel
theorem dX7_digest_24 : decode cX7_digest 24 = .ok (.lstore_n 1, 1) := by decide +kernel
theorem dX7_digest_25 : decode cX7_digest 25 = .ok (.iinc 3 1, 3) := by decide +kernel
theorem dX7_digest_28 : decode cX7_digest 28 = .ok (.goto (-22), 3) := by decide +kernel
theorem dX7_digest_31 : decode cX7_digest 31 = .ok (.ldc2_w 278, 3) := by decide +kernel
theorem dX7_digest_34 : decode cX7_digest 34 = .ok (.lload_n 1, 1) := by decide +kernel
theorem dX7_digest_35 : decode cX7_digest 35 = .ok (.lmul, 1) := by decide +kernel
theorem dX7_digest_36 : decode cX7_digest 36 = .ok (.aload_n 0, 1) := by decide +kernel
theorem dX7_digest_37 : decode cX7_digest 37 = .ok (.iconst 0, 1) := by decide +kernel
theorem dX7_digest_38 : decode cX7_digest 38 = .ok (.invokevirtual 282, 3) := by decide +kernel
theorem dX7_digest_41 : decode cX7_digest 41 = .ok (.i2l, 1) := by decide +kernel
theorem dX7_digest_42 : decode cX7_digest 42 = .ok (.ladd, 1) := by decide +kernel
theorem dX7_digest_43 : decode cX7_digest 43 = .ok (.lstore_n 1, 1) := by decide +kernel
theorem dX7_digest_44 : decode cX7_digest 44 = .ok (.ldc2_w 278, 3) := by decide +kernel
theorem dX7_digest_47 : decode cX7_digest 47 = .ok (.lload_n 1, 1) := by decide +kernel
theorem dX7_digest_48 : decode cX7_digest 48 = .ok (.lmul, 1) := by decide +kernel
theorem dX7_digest_49 : decode cX7_digest 49 = .ok (.aload_n 0, 1) := by decide +kernel
theorem dX7_digest_50 : decode cX7_digest 50 = .ok (.iconst 1, 1) := by decide +kernel
theorem dX7_digest_51 : decode cX7_digest 51 = .ok (.invokevirtual 282, 3) := by decide +kernel
theorem dX7_digest_54 : decode cX7_digest 54 = .ok (.i2l, 1) := by decide +kernel
theorem dX7_digest_55 : decode cX7_digest 55 = .ok (.ladd, 1) := by decide +kernel
theorem dX7_digest_56 : decode cX7_digest 56 = .ok (.lstore_n 1, 1) := by decide +kernel
theorem dX7_digest_57 : decode cX7_digest 57 = .ok (.iconst 0, 1) := by decide +kernel
theorem dX7_digest_58 : decode cX7_digest 58 = .ok (.istore_n 3, 1) := by decide +kernel
theorem dX7_digest_59 : decode cX7_digest 59 = .ok (.iload_n 3, 1) := by decide +kernel
theorem dX7_digest_60 : decode cX7_digest 60 = .ok (.aload_n 0, 1) := by decide +kernel
theorem dX7_digest_61 : decode cX7_digest 61 = .ok (.getfield 24, 3) := by decide +kernel
theorem dX7_digest_64 : decode cX7_digest 64 = .ok (.getfield 261, 3) := by decide +kernel
theorem dX7_digest_67 : decode cX7_digest 67 = .ok (.if_icmp .ge 16, 3) := by decide +kernel
theorem dX7_digest_70 : decode cX7_digest 70 = .ok (.aload_n 0, 1) := by decide +kernel
theorem dX7_digest_71 : decode cX7_digest 71 = .ok (.lload_n 1, 1) := by decide +kernel
theorem dX7_digest_72 : decode cX7_digest 72 = .ok (.iload_n 3, 1) := by decide +kernel
theorem dX7_digest_73 : decode cX7_digest 73 = .ok (.invokevirtual 285, 3) := by decide +kernel
theorem dX7_digest_76 : decode cX7_digest 76 = .ok (.lstore_n 1, 1) := by decide +kernel
theorem dX7_digest_77 : decode cX7_digest 77 = .ok (.iinc 3 1, 3) := by decide +kernel
theorem dX7_digest_80 : decode cX7_digest 80 = .ok (.goto (-21), 3) := by decide +kernel
theorem dX7_digest_83 : decode cX7_digest 83 = .ok (.ldc2_w 278, 3) := by decide +kernel
theorem dX7_digest_86 : decode cX7_digest 86 = .ok (.lload_n 1, 1) := by decide +kernel
theorem dX7_digest_87 : decode cX7_digest 87 = .ok (.lmul, 1) := by decide +kernel
theorem dX7_digest_88 : decode cX7_digest 88 = .ok (.aload_n 0, 1) := by decide +kernel
theorem dX7_digest_89 : decode cX7_digest 89 = .ok (.iconst 0, 1) := by decide +kernel
theorem dX7_digest_90 : decode cX7_digest 90 = .ok (.invokevirtual 289, 3) := by decide +kernel
theorem dX7_digest_93 : decode cX7_digest 93 = .ok (.i2l, 1) := by decide +kernel
theorem dX7_digest_94 : decode cX7_digest 94 = .ok (.ladd, 1) := by decide +kernel
theorem dX7_digest_95 : decode cX7_digest 95 = .ok (.lstore_n 1, 1) := by decide +kernel
theorem dX7_digest_96 : decode cX7_digest 96 = .ok (.ldc2_w 278, 3) := by decide +kernel
theorem dX7_digest_99 : decode cX7_digest 99 = .ok (.lload_n 1, 1) := by decide +kernel
theorem dX7_digest_100 : decode cX7_digest 100 = .ok (.lmul, 1) := by decide +kernel
theorem dX7_digest_101 : decode cX7_digest 101 = .ok (.aload_n 0, 1) := by decide +kernel
theorem dX7_digest_102 : decode cX7_digest 102 = .ok (.iconst 1, 1) := by decide +kernel
theorem dX7_digest_103 : decode cX7_digest 103 = .ok (.invokevirtual 289, 3) := by decide +kernel
theorem dX7_digest_106 : decode cX7_digest 106 = .ok (.i2l, 1) := by decide +kernel
theorem dX7_digest_107 : decode cX7_digest 107 = .ok (.ladd, 1) := by decide +kernel
theorem dX7_digest_108 : decode cX7_digest 108 = .ok (.lstore_n 1, 1) := by decide +kernel
theorem dX7_digest_109 : decode cX7_digest 109 = .ok (.ldc2_w 278, 3) := by decide +kernel
theorem dX7_digest_112 : decode cX7_digest 112 = .ok (.lload_n 1, 1) := by decide +kernel
theorem dX7_digest_113 : decode cX7_digest 113 = .ok (.lmul, 1) := by decide +kernel
theorem dX7_digest_114 : decode cX7_digest 114 = .ok (.aload_n 0, 1) := by decide +kernel
theorem dX7_digest_115 : decode cX7_digest 115 = .ok (.iconst 0, 1) := by decide +kernel
theorem dX7_digest_116 : decode cX7_digest 116 = .ok (.invokevirtual 292, 3) := by decide +kernel
theorem dX7_digest_119 : decode cX7_digest 119 = .ok (.i2l, 1) := by decide +kernel
theorem dX7_digest_120 : decode cX7_digest 120 = .ok (.ladd, 1) := by decide +kernel
theorem dX7_digest_121 : decode cX7_digest 121 = .ok (.lstore_n 1, 1) := by decide +kernel
theorem dX7_digest_122 : decode cX7_digest 122 = .ok (.ldc2_w 278, 3) := by decide +kernel
theorem dX7_digest_125 : decode cX7_digest 125 = .ok (.lload_n 1, 1) := by decide +kernel
theorem dX7_digest_126 : decode cX7_digest 126 = .ok (.lmul, 1) := by decide +kernel
theorem dX7_digest_127 : decode cX7_digest 127 = .ok (.aload_n 0, 1) := by decide +kernel
theorem dX7_digest_128 : decode cX7_digest 128 = .ok (.iconst 1, 1) := by decide +kernel
theorem dX7_digest_129 : decode cX7_digest 129 = .ok (.invokevirtual 292, 3) := by decide +kernel
theorem dX7_digest_132 : decode cX7_digest 132 = .ok (.i2l, 1) := by decide +kernel
theorem dX7_digest_133 : decode cX7_digest 133 = .ok (.ladd, 1) := by decide +kernel
theorem dX7_digest_134 : decode cX7_digest 134 = .ok (.lstore_n 1, 1) := by decide +kernel
theorem dX7_digest_135 : decode cX7_digest 135 = .ok (.ldc2_w 278, 3) := by decide +kernel
theorem dX7_digest_138 : decode cX7_digest 138 = .ok (.lload_n 1, 1) := by decide +kernel
theorem dX7_digest_139 : decode cX7_digest 139 = .ok (.lmul, 1) := by decide +kernel
theorem dX7_digest_140 : decode cX7_digest 140 = .ok (.aload_n 0, 1) := by decide +kernel
theorem dX7_digest_141 : decode cX7_digest 141 = .ok (.iconst 0, 1) := by decide +kernel
theorem dX7_digest_142 : decode cX7_digest 142 = .ok (.invokevirtual 255, 3) := by decide +kernel
theorem dX7_digest_145 : decode cX7_digest 145 = .ok (.i2l, 1) := by decide +kernel
theorem dX7_digest_146 : decode cX7_digest 146 = .ok (.ladd, 1) := by decide +kernel
theorem dX7_digest_147 : decode cX7_digest 147 = .ok (.lstore_n 1, 1) := by decide +kernel
theorem dX7_digest_148 : decode cX7_digest 148 = .ok (.ldc2_w 278, 3) := by decide +kernel
theorem dX7_digest_151 : decode cX7_digest 151 = .ok (.lload_n 1, 1) := by decide +kernel
theorem dX7_digest_152 : decode cX7_digest 152 = .ok (.lmul, 1) := by decide +kernel
theorem dX7_digest_153 : decode cX7_digest 153 = .ok (.aload_n 0, 1) := by decide +kernel
theorem dX7_digest_154 : decode cX7_digest 154 = .ok (.bipush 9, 2) := by decide +kernel
theorem dX7_digest_156 : decode cX7_digest 156 = .ok (.invokevirtual 255, 3) := by decide +kernel
theorem dX7_digest_159 : decode cX7_digest 159 = .ok (.i2l, 1) := by decide +kernel
theorem dX7_digest_160 : decode cX7_digest 160 = .ok (.ladd, 1) := by decide +kernel
theorem dX7_digest_161 : decode cX7_digest 161 = .ok (.lstore_n 1, 1) := by decide +kernel
theorem dX7_digest_162 : decode cX7_digest 162 = .ok (.ldc2_w 278, 3) := by decide +kernel
theorem dX7_digest_165 : decode cX7_digest 165 = .ok (.lload_n 1, 1) := by decide +kernel
theorem dX7_digest_166 : decode cX7_digest 166 = .ok (.lmul, 1) := by decide +kernel
theorem dX7_digest_167 : decode cX7_digest 167 = .ok (.aload_n 0, 1) := by decide +kernel
theorem dX7_digest_168 : decode cX7_digest 168 = .ok (.iconst 0, 1) := by decide +kernel
theorem dX7_digest_169 : decode cX7_digest 169 = .ok (.iconst 2, 1) := by decide +kernel
theorem dX7_digest_170 : decode cX7_digest 170 = .ok (.invokevirtual 295, 3) := by decide +kernel
theorem dX7_digest_173 : decode cX7_digest 173 = .ok (.i2l, 1) := by decide +kernel
theorem dX7_digest_174 : decode cX7_digest 174 = .ok (.ladd, 1) := by decide +kernel
theorem dX7_digest_175 : decode cX7_digest 175 = .ok (.lstore_n 1, 1) := by decide +kernel
theorem dX7_digest_176 : decode cX7_digest 176 = .ok (.iconst 0, 1) := by decide +kernel
theorem dX7_digest_177 : decode cX7_digest 177 = .ok (.istore_n 3, 1) := by decide +kernel
theorem dX7_digest_178 : decode cX7_digest 178 = .ok (.iload_n 3, 1) := by decide +kernel
theorem dX7_digest_179 : decode cX7_digest 179 = .ok (.iconst 2, 1) := by decide +kernel
theorem dX7_digest_180 : decode cX7_digest 180 = .ok (.if_icmp .gt 22, 3) := by decide +kernel
theorem dX7_digest_183 : decode cX7_digest 183 = .ok (.ldc2_w 278, 3) := by decide +kernel
theorem dX7_digest_186 : decode cX7_digest 186 = .ok (.lload_n 1, 1) := by decide +kernel
theorem dX7_digest_187 : decode cX7_digest 187 = .ok (.lmul, 1) := by decide +kernel
theorem dX7_digest_188 : decode cX7_digest 188 = .ok (.aload_n 0, 1) := by decide +kernel
theorem dX7_digest_189 : decode cX7_digest 189 = .ok (.iload_n 3, 1) := by decide +kernel
theorem dX7_digest_190 : decode cX7_digest 190 = .ok (.invokevirtual 298, 3) := by decide +kernel
theorem dX7_digest_193 : decode cX7_digest 193 = .ok (.i2l, 1) := by decide +kernel
theorem dX7_digest_194 : decode cX7_digest 194 = .ok (.ladd, 1) := by decide +kernel
theorem dX7_digest_195 : decode cX7_digest 195 = .ok (.lstore_n 1, 1) := by decide +kernel
theorem dX7_digest_196 : decode cX7_digest 196 = .ok (.iinc 3 1, 3) := by decide +kernel
theorem dX7_digest_199 : decode cX7_digest 199 = .ok (.goto (-21), 3) := by decide +kernel
theorem dX7_digest_202 : decode cX7_digest 202 = .ok (.ldc2_w 278, 3) := by decide +kernel
theorem dX7_digest_205 : decode cX7_digest 205 = .ok (.lload_n 1, 1) := by decide +kernel
theorem dX7_digest_206 : decode cX7_digest 206 = .ok (.lmul, 1) := by decide +kernel
theorem dX7_digest_207 : decode cX7_digest 207 = .ok (.aload_n 0, 1) := by decide +kernel
theorem dX7_digest_208 : decode cX7_digest 208 = .ok (.iconst 1, 1) := by decide +kernel
theorem dX7_digest_209 : decode cX7_digest 209 = .ok (.iconst (-1), 1) := by decide +kernel
theorem dX7_digest_210 : decode cX7_digest 210 = .ok (.iconst (-1), 1) := by decide +kernel
theorem dX7_digest_211 : decode cX7_digest 211 = .ok (.iconst (-1), 1) := by decide +kernel
theorem dX7_digest_212 : decode cX7_digest 212 = .ok (.iconst 0, 1) := by decide +kernel
theorem dX7_digest_213 : decode cX7_digest 213 = .ok (.invokevirtual 301, 3) := by decide +kernel
theorem dX7_digest_216 : decode cX7_digest 216 = .ok (.i2l, 1) := by decide +kernel
theorem dX7_digest_217 : decode cX7_digest 217 = .ok (.ladd, 1) := by decide +kernel
theorem dX7_digest_218 : decode cX7_digest 218 = .ok (.lstore_n 1, 1) := by decide +kernel
theorem dX7_digest_219 : decode cX7_digest 219 = .ok (.ldc2_w 278, 3) := by decide +kernel
theorem dX7_digest_222 : decode cX7_digest 222 = .ok (.lload_n 1, 1) := by decide +kernel
theorem dX7_digest_223 : decode cX7_digest 223 = .ok (.lmul, 1) := by decide +kernel
theorem dX7_digest_224 : decode cX7_digest 224 = .ok (.aload_n 0, 1) := by decide +kernel
theorem dX7_digest_225 : decode cX7_digest 225 = .ok (.iconst 1, 1) := by decide +kernel
theorem dX7_digest_226 : decode cX7_digest 226 = .ok (.iconst (-1), 1) := by decide +kernel
theorem dX7_digest_227 : decode cX7_digest 227 = .ok (.iconst (-1), 1) := by decide +kernel
theorem dX7_digest_228 : decode cX7_digest 228 = .ok (.iconst (-1), 1) := by decide +kernel
theorem dX7_digest_229 : decode cX7_digest 229 = .ok (.iconst 1, 1) := by decide +kernel
theorem dX7_digest_230 : decode cX7_digest 230 = .ok (.invokevirtual 301, 3) := by decide +kernel
theorem dX7_digest_233 : decode cX7_digest 233 = .ok (.i2l, 1) := by decide +kernel
theorem dX7_digest_234 : decode cX7_digest 234 = .ok (.ladd, 1) := by decide +kernel
theorem dX7_digest_235 : decode cX7_digest 235 = .ok (.lstore_n 1, 1) := by decide +kernel
theorem dX7_digest_236 : decode cX7_digest 236 = .ok (.ldc2_w 278, 3) := by decide +kernel
theorem dX7_digest_239 : decode cX7_digest 239 = .ok (.lload_n 1, 1) := by decide +kernel
theorem dX7_digest_240 : decode cX7_digest 240 = .ok (.lmul, 1) := by decide +kernel
theorem dX7_digest_241 : decode cX7_digest 241 = .ok (.aload_n 0, 1) := by decide +kernel
theorem dX7_digest_242 : decode cX7_digest 242 = .ok (.iconst 0, 1) := by decide +kernel
theorem dX7_digest_243 : decode cX7_digest 243 = .ok (.iconst 2, 1) := by decide +kernel
theorem dX7_digest_244 : decode cX7_digest 244 = .ok (.iconst 4, 1) := by decide +kernel
theorem dX7_digest_245 : decode cX7_digest 245 = .ok (.iconst 0, 1) := by decide +kernel
theorem dX7_digest_246 : decode cX7_digest 246 = .ok (.invokevirtual 305, 3) := by decide +kernel
theorem dX7_digest_249 : decode cX7_digest 249 = .ok (.ladd, 1) := by decide +kernel
theorem dX7_digest_250 : decode cX7_digest 250 = .ok (.lstore_n 1, 1) := by decide +kernel
theorem dX7_digest_251 : decode cX7_digest 251 = .ok (.ldc2_w 278, 3) := by decide +kernel
theorem dX7_digest_254 : decode cX7_digest 254 = .ok (.lload_n 1, 1) := by decide +kernel
theorem dX7_digest_255 : decode cX7_digest 255 = .ok (.lmul, 1) := by decide +kernel
theorem dX7_digest_256 : decode cX7_digest 256 = .ok (.aload_n 0, 1) := by decide +kernel
theorem dX7_digest_257 : decode cX7_digest 257 = .ok (.iconst 0, 1) := by decide +kernel
theorem dX7_digest_258 : decode cX7_digest 258 = .ok (.iconst 2, 1) := by decide +kernel
theorem dX7_digest_259 : decode cX7_digest 259 = .ok (.iconst 4, 1) := by decide +kernel
theorem dX7_digest_260 : decode cX7_digest 260 = .ok (.iconst 1, 1) := by decide +kernel
theorem dX7_digest_261 : decode cX7_digest 261 = .ok (.invokevirtual 305, 3) := by decide +kernel
theorem dX7_digest_264 : decode cX7_digest 264 = .ok (.ladd, 1) := by decide +kernel
theorem dX7_digest_265 : decode cX7_digest 265 = .ok (.lstore_n 1, 1) := by decide +kernel
theorem dX7_digest_266 : decode cX7_digest 266 = .ok (.ldc2_w 278, 3) := by decide +kernel
theorem dX7_digest_269 : decode cX7_digest 269 = .ok (.lload_n 1, 1) := by decide +kernel
theorem dX7_digest_270 : decode cX7_digest 270 = .ok (.lmul, 1) := by decide +kernel
theorem dX7_digest_271 : decode cX7_digest 271 = .ok (.aload_n 0, 1) := by decide +kernel
theorem dX7_digest_272 : decode cX7_digest 272 = .ok (.iconst 0, 1) := by decide +kernel
theorem dX7_digest_273 : decode cX7_digest 273 = .ok (.iconst 0, 1) := by decide +kernel
theorem dX7_digest_274 : decode cX7_digest 274 = .ok (.iconst 0, 1) := by decide +kernel
theorem dX7_digest_275 : decode cX7_digest 275 = .ok (.iconst 1, 1) := by decide +kernel
theorem dX7_digest_276 : decode cX7_digest 276 = .ok (.iconst 0, 1) := by decide +kernel
theorem dX7_digest_277 : decode cX7_digest 277 = .ok (.iconst 2, 1) := by decide +kernel
theorem dX7_digest_278 : decode cX7_digest 278 = .ok (.invokevirtual 309, 3) := by decide +kernel
theorem dX7_digest_281 : decode cX7_digest 281 = .ok (.i2l, 1) := by decide +kernel
theorem dX7_digest_282 : decode cX7_digest 282 = .ok (.ladd, 1) := by decide +kernel
theorem dX7_digest_283 : decode cX7_digest 283 = .ok (.lreturn, 1) := by decide +kernel
theorem iw_X7_digest_X3 : ∀ w ∈ u_ws RX3 TX3 4, w ∈ wsX7_digest := by decide +kernel
theorem iw_X7_digest_X7 : ∀ w ∈ u_ws RX7 TX7 8, w ∈ wsX7_digest := by decide +kernel
theorem lk_X7_digest_0 : Cond.constantLong RX7 276 17 ∈ wsX7_digest := by decide +kernel
theorem lk_X7_digest_1 : Cond.constantLong RX7 278 31 ∈ wsX7_digest := by decide +kernel
theorem lk_X7_digest_2 : Cond.fieldLink RX7 24 (TX7 2).1 (TX7 2).2.1 (TX7 2).2.2.1 ∈ wsX7_digest := by decide +kernel
theorem lk_X7_digest_3 : Cond.fieldLink RX7 261 (TX3 2).1 (TX3 2).2.1 (TX3 2).2.2.1 ∈ wsX7_digest := by decide +kernel
set_option maxRecDepth 100000 in
theorem r_X7_digest_0 {X : Bn} (C : Cx X cX7_digest 4 RX7 wsX7_digest 6 140) (ad : Nat → Nat) (S : MS) (h : At X 4 (cW X.E ad S) 6 [(0, .ref (ad 0)), (1, .long 17), (3, .int 0)] []) : At X 4 (cW X.E ad S) 0 [(0, .ref (ad 0))] [] := by
  refine at_ldc2 C lk_X7_digest_0 dX7_digest_0 ?_
  refine at_lstore_n C dX7_digest_3 rfl (by decide) (lv' := [(1, .long 17), (0, .ref (ad 0))]) rfl ?_
  refine at_iconst C dX7_digest_4 (v := 0) rfl ?_
  refine at_istore_n C dX7_digest_5 rfl (by decide) (lv' := [(3, .int 0), (1, .long 17), (0, .ref (ad 0))]) rfl ?_
  refine at_lv [2, 1, 0] rfl ?_
  exact h
set_option maxRecDepth 100000 in
theorem r_X7_digest_6 {X : Bn} (C : Cx X cX7_digest 4 RX7 wsX7_digest 6 140) (ad : Nat → Nat) (S : MS) (x1 : Int64) (x3 : Int32) (h : ((7 < x3) → (∃ (r1 : Int32) (S1 : MS), (Fn X.l X.D X.E X.a1 X.a2 yX7_fault wsX7_fault 0 0 [.ref (ad 0), .int 0] (cW X.E ad S) (some (.int r1)) (cW X.E ad S1)) ∧ (∃ (r2 : Int32) (S2 : MS), (Fn X.l X.D X.E X.a1 X.a2 yX7_fault wsX7_fault 0 0 [.ref (ad 0), .int 1] (cW X.E ad S1) (some (.int r2)) (cW X.E ad S2)) ∧ (At X 4 (cW X.E ad S2) 59 [(0, .ref (ad 0)), (1, .long ((31 * ((31 * x1) + r1.toInt64)) + r2.toInt64)), (3, .int 0)] [])))) ∧ (¬ 7 < x3 → (∃ (r3 : Int32) (S3 : MS), (Fn X.l X.D X.E X.a1 X.a2 yX7_count wsX7_count 4 91 [.ref (ad 0), .int x3] (cW X.E ad S) (some (.int r3)) (cW X.E ad S3)) ∧ (At X 4 (cW X.E ad S3) 6 [(0, .ref (ad 0)), (1, .long ((31 * x1) + r3.toInt64)), (3, .int (x3 + 1))] [])))) : At X 4 (cW X.E ad S) 6 [(0, .ref (ad 0)), (1, .long x1), (3, .int x3)] [] := by
  refine at_iload_n C dX7_digest_6 rfl (j := 2) rfl ?_
  refine at_bipush C dX7_digest_7 (v := 7) rfl ?_
  refine at_icmp_gt C dX7_digest_9 (tgt := 31) (by decide) (fun hc0 => ?_) (fun hc0 => ?_)
  · replace h := h.1 hc0
    refine at_ldc2 C lk_X7_digest_1 dX7_digest_31 ?_
    refine at_lload_n C dX7_digest_34 rfl (j := 1) rfl ?_
    refine at_lmul C dX7_digest_35 ?_
    refine at_aload_n C dX7_digest_36 rfl (j := 0) rfl ?_
    refine at_iconst C dX7_digest_37 (v := 0) rfl ?_
    obtain ⟨r1, S1, hF1, h⟩ := h
    refine at_cV1 C 1 hF1 gX7_digest_X7_fault rfl (by decide +kernel) ⟨rfl, rfl⟩ rfl rfl rfl 0 cW_c0 rfl dX7_digest_38 ?_
    refine at_i2l C dX7_digest_41 ?_
    refine at_ladd C dX7_digest_42 ?_
    refine at_lstore_n C dX7_digest_43 rfl (by decide) (lv' := [(1, .long ((31 * x1) + r1.toInt64)), (0, .ref (ad 0)), (3, .int x3)]) rfl ?_
    refine at_ldc2 C lk_X7_digest_1 dX7_digest_44 ?_
    refine at_lload_n C dX7_digest_47 rfl (j := 0) rfl ?_
    refine at_lmul C dX7_digest_48 ?_
    refine at_aload_n C dX7_digest_49 rfl (j := 1) rfl ?_
    refine at_iconst C dX7_digest_50 (v := 1) rfl ?_
    obtain ⟨r2, S2, hF2, h⟩ := h
    refine at_cV1 C 1 hF2 gX7_digest_X7_fault rfl (by decide +kernel) ⟨rfl, rfl⟩ rfl rfl rfl 0 cW_c0 rfl dX7_digest_51 ?_
    refine at_i2l C dX7_digest_54 ?_
    refine at_ladd C dX7_digest_55 ?_
    refine at_lstore_n C dX7_digest_56 rfl (by decide) (lv' := [(1, .long ((31 * ((31 * x1) + r1.toInt64)) + r2.toInt64)), (0, .ref (ad 0)), (3, .int x3)]) rfl ?_
    refine at_iconst C dX7_digest_57 (v := 0) rfl ?_
    refine at_istore_n C dX7_digest_58 rfl (by decide) (lv' := [(3, .int 0), (1, .long ((31 * ((31 * x1) + r1.toInt64)) + r2.toInt64)), (0, .ref (ad 0))]) rfl ?_
    refine at_lv [2, 1, 0] rfl ?_
    exact h
  · replace h := h.2 hc0
    refine at_ldc2 C lk_X7_digest_1 dX7_digest_12 ?_
    refine at_lload_n C dX7_digest_15 rfl (j := 1) rfl ?_
    refine at_lmul C dX7_digest_16 ?_
    refine at_aload_n C dX7_digest_17 rfl (j := 0) rfl ?_
    refine at_iload_n C dX7_digest_18 rfl (j := 2) rfl ?_
    obtain ⟨r3, S3, hF3, h⟩ := h
    refine at_cV1 C 1 hF3 gX7_digest_X7_count rfl (by decide +kernel) ⟨rfl, rfl⟩ rfl rfl rfl 0 cW_c0 rfl dX7_digest_19 ?_
    refine at_i2l C dX7_digest_22 ?_
    refine at_ladd C dX7_digest_23 ?_
    refine at_lstore_n C dX7_digest_24 rfl (by decide) (lv' := [(1, .long ((31 * x1) + r3.toInt64)), (0, .ref (ad 0)), (3, .int x3)]) rfl ?_
    refine at_iinc C dX7_digest_25 (j := 2) (v := x3 + 1) rfl rfl (by decide) (lv' := [(3, .int (x3 + 1)), (1, .long ((31 * x1) + r3.toInt64)), (0, .ref (ad 0))]) rfl ?_
    refine at_goto C dX7_digest_28 (tgt := 6) (by decide) ?_
    refine at_lv [2, 1, 0] rfl ?_
    exact h
set_option maxRecDepth 100000 in
theorem r_X7_digest_59 {X : Bn} (C : Cx X cX7_digest 4 RX7 wsX7_digest 6 140) (ad : Nat → Nat) (S : MS) (x1 : Int64) (x3 : Int32) (h : ((S.1 6 0 ≤ x3) → (∃ (r4 : Int32) (S4 : MS), (Fn X.l X.D X.E X.a1 X.a2 yX7_fits wsX7_fits 3 72 [.ref (ad 0), .int 0] (cW X.E ad S) (some (.int r4)) (cW X.E ad S4)) ∧ (∃ (r5 : Int32) (S5 : MS), (Fn X.l X.D X.E X.a1 X.a2 yX7_fits wsX7_fits 3 72 [.ref (ad 0), .int 1] (cW X.E ad S4) (some (.int r5)) (cW X.E ad S5)) ∧ (∃ (r6 : Int32) (S6 : MS), (Fn X.l X.D X.E X.a1 X.a2 yX7_look wsX7_look 3 74 [.ref (ad 0), .int 0] (cW X.E ad S5) (some (.int r6)) (cW X.E ad S6)) ∧ (∃ (r7 : Int32) (S7 : MS), (Fn X.l X.D X.E X.a1 X.a2 yX7_look wsX7_look 3 74 [.ref (ad 0), .int 1] (cW X.E ad S6) (some (.int r7)) (cW X.E ad S7)) ∧ (∃ (r8 : Int32) (S8 : MS), (Fn X.l X.D X.E X.a1 X.a2 yX7_view wsX7_view 3 75 [.ref (ad 0), .int 0] (cW X.E ad S7) (some (.int r8)) (cW X.E ad S8)) ∧ (∃ (r9 : Int32) (S9 : MS), (Fn X.l X.D X.E X.a1 X.a2 yX7_view wsX7_view 3 75 [.ref (ad 0), .int 9] (cW X.E ad S8) (some (.int r9)) (cW X.E ad S9)) ∧ (∃ (r10 : Int32) (S10 : MS), (Fn X.l X.D X.E X.a1 X.a2 yX7_sees wsX7_sees 3 75 [.ref (ad 0), .int 0, .int 2] (cW X.E ad S9) (some (.int r10)) (cW X.E ad S10)) ∧ (At X 4 (cW X.E ad S10) 178 [(0, .ref (ad 0)), (1, .long ((31 * ((31 * ((31 * ((31 * ((31 * ((31 * ((31 * x1) + r4.toInt64)) + r5.toInt64)) + r6.toInt64)) + r7.toInt64)) + r8.toInt64)) + r9.toInt64)) + r10.toInt64)), (3, .int 0)] []))))))))) ∧ (¬ S.1 6 0 ≤ x3 → (∃ (r11 : Int64) (S11 : MS), (Fn X.l X.D X.E X.a1 X.a2 yX7_withShape wsX7_withShape 5 114 [.ref (ad 0), .long x1, .int x3] (cW X.E ad S) (some (.long r11)) (cW X.E ad S11)) ∧ (At X 4 (cW X.E ad S11) 59 [(0, .ref (ad 0)), (1, .long r11), (3, .int (x3 + 1))] [])))) : At X 4 (cW X.E ad S) 59 [(0, .ref (ad 0)), (1, .long x1), (3, .int x3)] [] := by
  refine at_iload_n C dX7_digest_59 rfl (j := 2) rfl ?_
  refine at_aload_n C dX7_digest_60 rfl (j := 0) rfl ?_
  refine at_get C (K := RX7) (T := TX7) (N := 8) (ci := 6) (v := .ref (ad 5)) iw_X7_digest_X7 0 cW_c0 rfl 2 (by decide) lk_X7_digest_2 rfl dX7_digest_61 ?_
  refine at_get C (K := RX3) (T := TX3) (N := 4) (ci := 2) (v := .int (S.1 6 0)) iw_X7_digest_X3 5 cW_c5 rfl 2 (by decide) lk_X7_digest_3 rfl dX7_digest_64 ?_
  refine at_icmp_ge C dX7_digest_67 (tgt := 83) (by decide) (fun hc1 => ?_) (fun hc1 => ?_)
  · replace h := h.1 hc1
    refine at_ldc2 C lk_X7_digest_1 dX7_digest_83 ?_
    refine at_lload_n C dX7_digest_86 rfl (j := 1) rfl ?_
    refine at_lmul C dX7_digest_87 ?_
    refine at_aload_n C dX7_digest_88 rfl (j := 0) rfl ?_
    refine at_iconst C dX7_digest_89 (v := 0) rfl ?_
    obtain ⟨r4, S4, hF4, h⟩ := h
    refine at_cV1 C 1 hF4 gX7_digest_X7_fits rfl (by decide +kernel) ⟨rfl, rfl⟩ rfl rfl rfl 0 cW_c0 rfl dX7_digest_90 ?_
    refine at_i2l C dX7_digest_93 ?_
    refine at_ladd C dX7_digest_94 ?_
    refine at_lstore_n C dX7_digest_95 rfl (by decide) (lv' := [(1, .long ((31 * x1) + r4.toInt64)), (0, .ref (ad 0)), (3, .int x3)]) rfl ?_
    refine at_ldc2 C lk_X7_digest_1 dX7_digest_96 ?_
    refine at_lload_n C dX7_digest_99 rfl (j := 0) rfl ?_
    refine at_lmul C dX7_digest_100 ?_
    refine at_aload_n C dX7_digest_101 rfl (j := 1) rfl ?_
    refine at_iconst C dX7_digest_102 (v := 1) rfl ?_
    obtain ⟨r5, S5, hF5, h⟩ := h
    refine at_cV1 C 1 hF5 gX7_digest_X7_fits rfl (by decide +kernel) ⟨rfl, rfl⟩ rfl rfl rfl 0 cW_c0 rfl dX7_digest_103 ?_
    refine at_i2l C dX7_digest_106 ?_
    refine at_ladd C dX7_digest_107 ?_
    refine at_lstore_n C dX7_digest_108 rfl (by decide) (lv' := [(1, .long ((31 * ((31 * x1) + r4.toInt64)) + r5.toInt64)), (0, .ref (ad 0)), (3, .int x3)]) rfl ?_
    refine at_ldc2 C lk_X7_digest_1 dX7_digest_109 ?_
    refine at_lload_n C dX7_digest_112 rfl (j := 0) rfl ?_
    refine at_lmul C dX7_digest_113 ?_
    refine at_aload_n C dX7_digest_114 rfl (j := 1) rfl ?_
    refine at_iconst C dX7_digest_115 (v := 0) rfl ?_
    obtain ⟨r6, S6, hF6, h⟩ := h
    refine at_cV1 C 1 hF6 gX7_digest_X7_look rfl (by decide +kernel) ⟨rfl, rfl⟩ rfl rfl rfl 0 cW_c0 rfl dX7_digest_116 ?_
    refine at_i2l C dX7_digest_119 ?_
    refine at_ladd C dX7_digest_120 ?_
    refine at_lstore_n C dX7_digest_121 rfl (by decide) (lv' := [(1, .long ((31 * ((31 * ((31 * x1) + r4.toInt64)) + r5.toInt64)) + r6.toInt64)), (0, .ref (ad 0)), (3, .int x3)]) rfl ?_
    refine at_ldc2 C lk_X7_digest_1 dX7_digest_122 ?_
    refine at_lload_n C dX7_digest_125 rfl (j := 0) rfl ?_
    refine at_lmul C dX7_digest_126 ?_
    refine at_aload_n C dX7_digest_127 rfl (j := 1) rfl ?_
    refine at_iconst C dX7_digest_128 (v := 1) rfl ?_
    obtain ⟨r7, S7, hF7, h⟩ := h
    refine at_cV1 C 1 hF7 gX7_digest_X7_look rfl (by decide +kernel) ⟨rfl, rfl⟩ rfl rfl rfl 0 cW_c0 rfl dX7_digest_129 ?_
    refine at_i2l C dX7_digest_132 ?_
    refine at_ladd C dX7_digest_133 ?_
    refine at_lstore_n C dX7_digest_134 rfl (by decide) (lv' := [(1, .long ((31 * ((31 * ((31 * ((31 * x1) + r4.toInt64)) + r5.toInt64)) + r6.toInt64)) + r7.toInt64)), (0, .ref (ad 0)), (3, .int x3)]) rfl ?_
    refine at_ldc2 C lk_X7_digest_1 dX7_digest_135 ?_
    refine at_lload_n C dX7_digest_138 rfl (j := 0) rfl ?_
    refine at_lmul C dX7_digest_139 ?_
    refine at_aload_n C dX7_digest_140 rfl (j := 1) rfl ?_
    refine at_iconst C dX7_digest_141 (v := 0) rfl ?_
    obtain ⟨r8, S8, hF8, h⟩ := h
    refine at_cV1 C 1 hF8 gX7_digest_X7_view rfl (by decide +kernel) ⟨rfl, rfl⟩ rfl rfl rfl 0 cW_c0 rfl dX7_digest_142 ?_
    refine at_i2l C dX7_digest_145 ?_
    refine at_ladd C dX7_digest_146 ?_
    refine at_lstore_n C dX7_digest_147 rfl (by decide) (lv' := [(1, .long ((31 * ((31 * ((31 * ((31 * ((31 * x1) + r4.toInt64)) + r5.toInt64)) + r6.toInt64)) + r7.toInt64)) + r8.toInt64)), (0, .ref (ad 0)), (3, .int x3)]) rfl ?_
    refine at_ldc2 C lk_X7_digest_1 dX7_digest_148 ?_
    refine at_lload_n C dX7_digest_151 rfl (j := 0) rfl ?_
    refine at_lmul C dX7_digest_152 ?_
    refine at_aload_n C dX7_digest_153 rfl (j := 1) rfl ?_
    refine at_bipush C dX7_digest_154 (v := 9) rfl ?_
    obtain ⟨r9, S9, hF9, h⟩ := h
    refine at_cV1 C 1 hF9 gX7_digest_X7_view rfl (by decide +kernel) ⟨rfl, rfl⟩ rfl rfl rfl 0 cW_c0 rfl dX7_digest_156 ?_
    refine at_i2l C dX7_digest_159 ?_
    refine at_ladd C dX7_digest_160 ?_
    refine at_lstore_n C dX7_digest_161 rfl (by decide) (lv' := [(1, .long ((31 * ((31 * ((31 * ((31 * ((31 * ((31 * x1) + r4.toInt64)) + r5.toInt64)) + r6.toInt64)) + r7.toInt64)) + r8.toInt64)) + r9.toInt64)), (0, .ref (ad 0)), (3, .int x3)]) rfl ?_
    refine at_ldc2 C lk_X7_digest_1 dX7_digest_162 ?_
    refine at_lload_n C dX7_digest_165 rfl (j := 0) rfl ?_
    refine at_lmul C dX7_digest_166 ?_
    refine at_aload_n C dX7_digest_167 rfl (j := 1) rfl ?_
    refine at_iconst C dX7_digest_168 (v := 0) rfl ?_
    refine at_iconst C dX7_digest_169 (v := 2) rfl ?_
    obtain ⟨r10, S10, hF10, h⟩ := h
    refine at_cV1 C 2 hF10 gX7_digest_X7_sees rfl (by decide +kernel) ⟨rfl, rfl⟩ rfl rfl rfl 0 cW_c0 rfl dX7_digest_170 ?_
    refine at_i2l C dX7_digest_173 ?_
    refine at_ladd C dX7_digest_174 ?_
    refine at_lstore_n C dX7_digest_175 rfl (by decide) (lv' := [(1, .long ((31 * ((31 * ((31 * ((31 * ((31 * ((31 * ((31 * x1) + r4.toInt64)) + r5.toInt64)) + r6.toInt64)) + r7.toInt64)) + r8.toInt64)) + r9.toInt64)) + r10.toInt64)), (0, .ref (ad 0)), (3, .int x3)]) rfl ?_
    refine at_iconst C dX7_digest_176 (v := 0) rfl ?_
    refine at_istore_n C dX7_digest_177 rfl (by decide) (lv' := [(3, .int 0), (1, .long ((31 * ((31 * ((31 * ((31 * ((31 * ((31 * ((31 * x1) + r4.toInt64)) + r5.toInt64)) + r6.toInt64)) + r7.toInt64)) + r8.toInt64)) + r9.toInt64)) + r10.toInt64)), (0, .ref (ad 0))]) rfl ?_
    refine at_lv [2, 1, 0] rfl ?_
    exact h
  · replace h := h.2 hc1
    refine at_aload_n C dX7_digest_70 rfl (j := 0) rfl ?_
    refine at_lload_n C dX7_digest_71 rfl (j := 1) rfl ?_
    refine at_iload_n C dX7_digest_72 rfl (j := 2) rfl ?_
    obtain ⟨r11, S11, hF11, h⟩ := h
    refine at_cV1 C 2 hF11 gX7_digest_X7_withShape rfl (by decide +kernel) ⟨rfl, rfl⟩ rfl rfl rfl 0 cW_c0 rfl dX7_digest_73 ?_
    refine at_lstore_n C dX7_digest_76 rfl (by decide) (lv' := [(1, .long r11), (0, .ref (ad 0)), (3, .int x3)]) rfl ?_
    refine at_iinc C dX7_digest_77 (j := 2) (v := x3 + 1) rfl rfl (by decide) (lv' := [(3, .int (x3 + 1)), (1, .long r11), (0, .ref (ad 0))]) rfl ?_
    refine at_goto C dX7_digest_80 (tgt := 59) (by decide) ?_
    refine at_lv [2, 1, 0] rfl ?_
    exact h
set_option maxRecDepth 100000 in
theorem r_X7_digest_178 {X : Bn} (C : Cx X cX7_digest 4 RX7 wsX7_digest 6 140) (ad : Nat → Nat) (S : MS) (x1 : Int64) (x3 : Int32) (h : ((2 < x3) → (∃ (r12 : Int32) (S12 : MS), (Fn X.l X.D X.E X.a1 X.a2 yX7_echoes wsX7_echoes 3 71 [.ref (ad 0), .int 1, .int (-1), .int (-1), .int (-1), .int 0] (cW X.E ad S) (some (.int r12)) (cW X.E ad S12)) ∧ (∃ (r13 : Int32) (S13 : MS), (Fn X.l X.D X.E X.a1 X.a2 yX7_echoes wsX7_echoes 3 71 [.ref (ad 0), .int 1, .int (-1), .int (-1), .int (-1), .int 1] (cW X.E ad S12) (some (.int r13)) (cW X.E ad S13)) ∧ (∃ (r14 : Int64) (S14 : MS), (Fn X.l X.D X.E X.a1 X.a2 yX7_fog wsX7_fog 3 75 [.ref (ad 0), .int 0, .int 2, .int 4, .int 0] (cW X.E ad S13) (some (.long r14)) (cW X.E ad S14)) ∧ (∃ (r15 : Int64) (S15 : MS), (Fn X.l X.D X.E X.a1 X.a2 yX7_fog wsX7_fog 3 75 [.ref (ad 0), .int 0, .int 2, .int 4, .int 1] (cW X.E ad S14) (some (.long r15)) (cW X.E ad S15)) ∧ (∃ (r16 : Int32) (S16 : MS), (Fn X.l X.D X.E X.a1 X.a2 yX7_meet wsX7_meet 4 87 [.ref (ad 0), .int 0, .int 0, .int 0, .int 1, .int 0, .int 2] (cW X.E ad S15) (some (.int r16)) (cW X.E ad S16)) ∧ (Ends X (some .long) (some (.long ((31 * ((31 * ((31 * ((31 * ((31 * x1) + r12.toInt64)) + r13.toInt64)) + r14)) + r15)) + r16.toInt64))) (cW X.E ad S16)))))))) ∧ (¬ 2 < x3 → (∃ (r17 : Int32) (S17 : MS), (Fn X.l X.D X.E X.a1 X.a2 yX7_watchers wsX7_watchers 4 96 [.ref (ad 0), .int x3] (cW X.E ad S) (some (.int r17)) (cW X.E ad S17)) ∧ (At X 4 (cW X.E ad S17) 178 [(0, .ref (ad 0)), (1, .long ((31 * x1) + r17.toInt64)), (3, .int (x3 + 1))] [])))) : At X 4 (cW X.E ad S) 178 [(0, .ref (ad 0)), (1, .long x1), (3, .int x3)] [] := by
  refine at_iload_n C dX7_digest_178 rfl (j := 2) rfl ?_
  refine at_iconst C dX7_digest_179 (v := 2) rfl ?_
  refine at_icmp_gt C dX7_digest_180 (tgt := 202) (by decide) (fun hc2 => ?_) (fun hc2 => ?_)
  · replace h := h.1 hc2
    refine at_ldc2 C lk_X7_digest_1 dX7_digest_202 ?_
    refine at_lload_n C dX7_digest_205 rfl (j := 1) rfl ?_
    refine at_lmul C dX7_digest_206 ?_
    refine at_aload_n C dX7_digest_207 rfl (j := 0) rfl ?_
    refine at_iconst C dX7_digest_208 (v := 1) rfl ?_
    refine at_iconst C dX7_digest_209 (v := (-1)) rfl ?_
    refine at_iconst C dX7_digest_210 (v := (-1)) rfl ?_
    refine at_iconst C dX7_digest_211 (v := (-1)) rfl ?_
    refine at_iconst C dX7_digest_212 (v := 0) rfl ?_
    obtain ⟨r12, S12, hF12, h⟩ := h
    refine at_cV1 C 5 hF12 gX7_digest_X7_echoes rfl (by decide +kernel) ⟨rfl, rfl⟩ rfl rfl rfl 0 cW_c0 rfl dX7_digest_213 ?_
    refine at_i2l C dX7_digest_216 ?_
    refine at_ladd C dX7_digest_217 ?_
    refine at_lstore_n C dX7_digest_218 rfl (by decide) (lv' := [(1, .long ((31 * x1) + r12.toInt64)), (0, .ref (ad 0)), (3, .int x3)]) rfl ?_
    refine at_ldc2 C lk_X7_digest_1 dX7_digest_219 ?_
    refine at_lload_n C dX7_digest_222 rfl (j := 0) rfl ?_
    refine at_lmul C dX7_digest_223 ?_
    refine at_aload_n C dX7_digest_224 rfl (j := 1) rfl ?_
    refine at_iconst C dX7_digest_225 (v := 1) rfl ?_
    refine at_iconst C dX7_digest_226 (v := (-1)) rfl ?_
    refine at_iconst C dX7_digest_227 (v := (-1)) rfl ?_
    refine at_iconst C dX7_digest_228 (v := (-1)) rfl ?_
    refine at_iconst C dX7_digest_229 (v := 1) rfl ?_
    obtain ⟨r13, S13, hF13, h⟩ := h
    refine at_cV1 C 5 hF13 gX7_digest_X7_echoes rfl (by decide +kernel) ⟨rfl, rfl⟩ rfl rfl rfl 0 cW_c0 rfl dX7_digest_230 ?_
    refine at_i2l C dX7_digest_233 ?_
    refine at_ladd C dX7_digest_234 ?_
    refine at_lstore_n C dX7_digest_235 rfl (by decide) (lv' := [(1, .long ((31 * ((31 * x1) + r12.toInt64)) + r13.toInt64)), (0, .ref (ad 0)), (3, .int x3)]) rfl ?_
    refine at_ldc2 C lk_X7_digest_1 dX7_digest_236 ?_
    refine at_lload_n C dX7_digest_239 rfl (j := 0) rfl ?_
    refine at_lmul C dX7_digest_240 ?_
    refine at_aload_n C dX7_digest_241 rfl (j := 1) rfl ?_
    refine at_iconst C dX7_digest_242 (v := 0) rfl ?_
    refine at_iconst C dX7_digest_243 (v := 2) rfl ?_
    refine at_iconst C dX7_digest_244 (v := 4) rfl ?_
    refine at_iconst C dX7_digest_245 (v := 0) rfl ?_
    obtain ⟨r14, S14, hF14, h⟩ := h
    refine at_cV1 C 4 hF14 gX7_digest_X7_fog rfl (by decide +kernel) ⟨rfl, rfl⟩ rfl rfl rfl 0 cW_c0 rfl dX7_digest_246 ?_
    refine at_ladd C dX7_digest_249 ?_
    refine at_lstore_n C dX7_digest_250 rfl (by decide) (lv' := [(1, .long ((31 * ((31 * ((31 * x1) + r12.toInt64)) + r13.toInt64)) + r14)), (0, .ref (ad 0)), (3, .int x3)]) rfl ?_
    refine at_ldc2 C lk_X7_digest_1 dX7_digest_251 ?_
    refine at_lload_n C dX7_digest_254 rfl (j := 0) rfl ?_
    refine at_lmul C dX7_digest_255 ?_
    refine at_aload_n C dX7_digest_256 rfl (j := 1) rfl ?_
    refine at_iconst C dX7_digest_257 (v := 0) rfl ?_
    refine at_iconst C dX7_digest_258 (v := 2) rfl ?_
    refine at_iconst C dX7_digest_259 (v := 4) rfl ?_
    refine at_iconst C dX7_digest_260 (v := 1) rfl ?_
    obtain ⟨r15, S15, hF15, h⟩ := h
    refine at_cV1 C 4 hF15 gX7_digest_X7_fog rfl (by decide +kernel) ⟨rfl, rfl⟩ rfl rfl rfl 0 cW_c0 rfl dX7_digest_261 ?_
    refine at_ladd C dX7_digest_264 ?_
    refine at_lstore_n C dX7_digest_265 rfl (by decide) (lv' := [(1, .long ((31 * ((31 * ((31 * ((31 * x1) + r12.toInt64)) + r13.toInt64)) + r14)) + r15)), (0, .ref (ad 0)), (3, .int x3)]) rfl ?_
    refine at_ldc2 C lk_X7_digest_1 dX7_digest_266 ?_
    refine at_lload_n C dX7_digest_269 rfl (j := 0) rfl ?_
    refine at_lmul C dX7_digest_270 ?_
    refine at_aload_n C dX7_digest_271 rfl (j := 1) rfl ?_
    refine at_iconst C dX7_digest_272 (v := 0) rfl ?_
    refine at_iconst C dX7_digest_273 (v := 0) rfl ?_
    refine at_iconst C dX7_digest_274 (v := 0) rfl ?_
    refine at_iconst C dX7_digest_275 (v := 1) rfl ?_
    refine at_iconst C dX7_digest_276 (v := 0) rfl ?_
    refine at_iconst C dX7_digest_277 (v := 2) rfl ?_
    obtain ⟨r16, S16, hF16, h⟩ := h
    refine at_cV1 C 6 hF16 gX7_digest_X7_meet rfl (by decide +kernel) ⟨rfl, rfl⟩ rfl rfl rfl 0 cW_c0 rfl dX7_digest_278 ?_
    refine at_i2l C dX7_digest_281 ?_
    refine at_ladd C dX7_digest_282 ?_
    exact at_lret C dX7_digest_283 h
  · replace h := h.2 hc2
    refine at_ldc2 C lk_X7_digest_1 dX7_digest_183 ?_
    refine at_lload_n C dX7_digest_186 rfl (j := 1) rfl ?_
    refine at_lmul C dX7_digest_187 ?_
    refine at_aload_n C dX7_digest_188 rfl (j := 0) rfl ?_
    refine at_iload_n C dX7_digest_189 rfl (j := 2) rfl ?_
    obtain ⟨r17, S17, hF17, h⟩ := h
    refine at_cV1 C 1 hF17 gX7_digest_X7_watchers rfl (by decide +kernel) ⟨rfl, rfl⟩ rfl rfl rfl 0 cW_c0 rfl dX7_digest_190 ?_
    refine at_i2l C dX7_digest_193 ?_
    refine at_ladd C dX7_digest_194 ?_
    refine at_lstore_n C dX7_digest_195 rfl (by decide) (lv' := [(1, .long ((31 * x1) + r17.toInt64)), (0, .ref (ad 0)), (3, .int x3)]) rfl ?_
    refine at_iinc C dX7_digest_196 (j := 2) (v := x3 + 1) rfl rfl (by decide) (lv' := [(3, .int (x3 + 1)), (1, .long ((31 * x1) + r17.toInt64)), (0, .ref (ad 0))]) rfl ?_
    refine at_goto C dX7_digest_199 (tgt := 178) (by decide) ?_
    refine at_lv [2, 1, 0] rfl ?_
    exact h
end
