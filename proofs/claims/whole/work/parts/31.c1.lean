theorem dX7_within_0 : decode cX7_within 0 = .ok (.iload_n 0, 1) := by decide +kernel
theorem dX7_within_1 : decode cX7_within 1 = .ok (.ifCond .lt 12, 3) := by decide +kernel
theorem dX7_within_4 : decode cX7_within 4 = .ok (.iload_n 0, 1) := by decide +kernel
theorem dX7_within_5 : decode cX7_within 5 = .ok (.iload_n 1, 1) := by decide +kernel
theorem dX7_within_6 : decode cX7_within 6 = .ok (.if_icmp .ge 7, 3) := by decide +kernel
theorem dX7_within_9 : decode cX7_within 9 = .ok (.iconst 1, 1) := by decide +kernel
theorem dX7_within_10 : decode cX7_within 10 = .ok (.goto 4, 3) := by decide +kernel
theorem dX7_within_13 : decode cX7_within 13 = .ok (.iconst 0, 1) := by decide +kernel
theorem dX7_within_14 : decode cX7_within 14 = .ok (.ireturn, 1) := by decide +kernel
set_option maxRecDepth 100000 in
theorem r_X7_within_0 {X : Bn} (C : Cx X cX7_within 2 RX7 wsX7_within 0 0) {ws : va_W} (x0 : Int32) (x1 : Int32) (h : Ends X (some .boolean) (some (.int (b2i (if x0 < 0 then false else (if x1 ≤ x0 then false else true))))) (ws)) : At X 2 (ws) 0 [(0, .int x0), (1, .int x1)] [] := by
  refine at_iload_n C dX7_within_0 rfl (j := 0) rfl ?_
  have K : At X 2 (ws) 14 [] [.int (b2i (if x0 < 0 then false else (if x1 ≤ x0 then false else true)))] := by
    exact at_zret C dX7_within_14 (b2i_nar _) h
  refine at_if_lt C dX7_within_1 (tgt := 13) (by decide) (fun hc0 => ?_) (fun hc0 => ?_)
  · skip
    refine at_iconst C dX7_within_13 (v := 0) rfl ?_
    refine at_lv [] rfl ?_
    first | (simp only [if_pos hc0] at K; exact K) | exact K
  · skip
    refine at_iload_n C dX7_within_4 rfl (j := 0) rfl ?_
    refine at_iload_n C dX7_within_5 rfl (j := 1) rfl ?_
    refine at_icmp_ge C dX7_within_6 (tgt := 13) (by decide) (fun hc1 => ?_) (fun hc1 => ?_)
    · skip
      refine at_iconst C dX7_within_13 (v := 0) rfl ?_
      refine at_lv [] rfl ?_
      first | (simp only [if_neg hc0, if_pos hc1] at K; exact K) | exact K
    · skip
      refine at_iconst C dX7_within_9 (v := 1) rfl ?_
      refine at_goto C dX7_within_10 (tgt := 14) (by decide) ?_
      refine at_lv [] rfl ?_
      first | (simp only [if_neg hc0, if_neg hc1] at K; exact K) | exact K
def f_X7_within (x0 : Int32) (x1 : Int32) : Bool := (if x0 < 0 then false else (if x1 ≤ x0 then false else true))
set_option maxRecDepth 100000 in
theorem c_X7_within (l : Launch) (D : va_G) (E : Nat → ClassId) (a1 a2 : Nat) (x0 : Int32) (x1 : Int32) : Fn l D E a1 a2 yX7_within wsX7_within 0 0 [.int x0, .int x1] ([]) (some (.int (b2i (f_X7_within x0 x1)))) ([]) := by
  refine Fn.of (cc := cX7_within) (maxL := 2) (ret := (some .boolean)) (own := RX7) (by decide) rfl rfl rfl (Nat.le_of_ble_eq_true rfl) (fun X h1 h2 h3 h4 h5 C hE => ?_)
  subst h1 h2 h3 h4 h5
  refine r_X7_within_0 C x0 x1 ?_
  simp only [f_X7_within, b2i_t, b2i_f] at hE
  exact hE
theorem dX2_bit_0 : decode cX2_bit 0 = .ok (.ldc 9, 2) := by decide +kernel
theorem dX2_bit_2 : decode cX2_bit 2 = .ok (.iconst 4, 1) := by decide +kernel
theorem dX2_bit_3 : decode cX2_bit 3 = .ok (.iload_n 0, 1) := by decide +kernel
theorem dX2_bit_4 : decode cX2_bit 4 = .ok (.imul, 1) := by decide +kernel
theorem dX2_bit_5 : decode cX2_bit 5 = .ok (.iload_n 1, 1) := by decide +kernel
theorem dX2_bit_6 : decode cX2_bit 6 = .ok (.iadd, 1) := by decide +kernel
theorem dX2_bit_7 : decode cX2_bit 7 = .ok (.iushr, 1) := by decide +kernel
theorem dX2_bit_8 : decode cX2_bit 8 = .ok (.ireturn, 1) := by decide +kernel
theorem lk_X2_bit_0 : Cond.constant RX2 9 32768 ∈ wsX2_bit := by decide +kernel
set_option maxRecDepth 100000 in
theorem r_X2_bit_0 {X : Bn} (C : Cx X cX2_bit 2 RX2 wsX2_bit 0 0) {ws : va_W} (x0 : Int32) (x1 : Int32) (h : Ends X (some .int) (some (.int (iush 32768 ((4 * x0) + x1)))) (ws)) : At X 2 (ws) 0 [(0, .int x0), (1, .int x1)] [] := by
  refine at_ldc C lk_X2_bit_0 dX2_bit_0 ?_
  refine at_iconst C dX2_bit_2 (v := 4) rfl ?_
  refine at_iload_n C dX2_bit_3 rfl (j := 0) rfl ?_
  refine at_imul C dX2_bit_4 ?_
  refine at_iload_n C dX2_bit_5 rfl (j := 1) rfl ?_
  refine at_iadd C dX2_bit_6 ?_
  refine at_iushr C dX2_bit_7 ?_
  exact at_iret C dX2_bit_8 h
def f_X2_bit (x0 : Int32) (x1 : Int32) : Int32 := iush 32768 ((4 * x0) + x1)
set_option maxRecDepth 100000 in
theorem c_X2_bit (l : Launch) (D : va_G) (E : Nat → ClassId) (a1 a2 : Nat) (x0 : Int32) (x1 : Int32) : Fn l D E a1 a2 yX2_bit wsX2_bit 0 0 [.int x0, .int x1] ([]) (some (.int (f_X2_bit x0 x1))) ([]) := by
  refine Fn.of (cc := cX2_bit) (maxL := 2) (ret := (some .int)) (own := RX2) (by decide) rfl rfl rfl (Nat.le_of_ble_eq_true rfl) (fun X h1 h2 h3 h4 h5 C hE => ?_)
  subst h1 h2 h3 h4 h5
  refine r_X2_bit_0 C x0 x1 ?_
  simp only [f_X2_bit] at hE
  exact hE
theorem dJ6_bitCount_0f7a4_0 : decode cJ6_bitCount_0f7a4 0 = .ok (.iload_n 0, 1) := by decide +kernel
theorem dJ6_bitCount_0f7a4_1 : decode cJ6_bitCount_0f7a4 1 = .ok (.iload_n 0, 1) := by decide +kernel
theorem dJ6_bitCount_0f7a4_2 : decode cJ6_bitCount_0f7a4 2 = .ok (.iconst 1, 1) := by decide +kernel
theorem dJ6_bitCount_0f7a4_3 : decode cJ6_bitCount_0f7a4 3 = .ok (.iushr, 1) := by decide +kernel
theorem dJ6_bitCount_0f7a4_4 : decode cJ6_bitCount_0f7a4 4 = .ok (.ldc_w 265, 3) := by decide +kernel
theorem dJ6_bitCount_0f7a4_7 : decode cJ6_bitCount_0f7a4 7 = .ok (.iand, 1) := by decide +kernel
theorem dJ6_bitCount_0f7a4_8 : decode cJ6_bitCount_0f7a4 8 = .ok (.isub, 1) := by decide +kernel
theorem dJ6_bitCount_0f7a4_9 : decode cJ6_bitCount_0f7a4 9 = .ok (.istore_n 0, 1) := by decide +kernel
theorem dJ6_bitCount_0f7a4_10 : decode cJ6_bitCount_0f7a4 10 = .ok (.iload_n 0, 1) := by decide +kernel
theorem dJ6_bitCount_0f7a4_11 : decode cJ6_bitCount_0f7a4 11 = .ok (.ldc_w 266, 3) := by decide +kernel
theorem dJ6_bitCount_0f7a4_14 : decode cJ6_bitCount_0f7a4 14 = .ok (.iand, 1) := by decide +kernel
theorem dJ6_bitCount_0f7a4_15 : decode cJ6_bitCount_0f7a4 15 = .ok (.iload_n 0, 1) := by decide +kernel
theorem dJ6_bitCount_0f7a4_16 : decode cJ6_bitCount_0f7a4 16 = .ok (.iconst 2, 1) := by decide +kernel
theorem dJ6_bitCount_0f7a4_17 : decode cJ6_bitCount_0f7a4 17 = .ok (.iushr, 1) := by decide +kernel
theorem dJ6_bitCount_0f7a4_18 : decode cJ6_bitCount_0f7a4 18 = .ok (.ldc_w 266, 3) := by decide +kernel
theorem dJ6_bitCount_0f7a4_21 : decode cJ6_bitCount_0f7a4 21 = .ok (.iand, 1) := by decide +kernel
theorem dJ6_bitCount_0f7a4_22 : decode cJ6_bitCount_0f7a4 22 = .ok (.iadd, 1) := by decide +kernel
theorem dJ6_bitCount_0f7a4_23 : decode cJ6_bitCount_0f7a4 23 = .ok (.istore_n 0, 1) := by decide +kernel
theorem dJ6_bitCount_0f7a4_24 : decode cJ6_bitCount_0f7a4 24 = .ok (.iload_n 0, 1) := by decide +kernel
theorem dJ6_bitCount_0f7a4_25 : decode cJ6_bitCount_0f7a4 25 = .ok (.iload_n 0, 1) := by decide +kernel
theorem dJ6_bitCount_0f7a4_26 : decode cJ6_bitCount_0f7a4 26 = .ok (.iconst 4, 1) := by decide +kernel
theorem dJ6_bitCount_0f7a4_27 : decode cJ6_bitCount_0f7a4 27 = .ok (.iushr, 1) := by decide +kernel
theorem dJ6_bitCount_0f7a4_28 : decode cJ6_bitCount_0f7a4 28 = .ok (.iadd, 1) := by decide +kernel
theorem dJ6_bitCount_0f7a4_29 : decode cJ6_bitCount_0f7a4 29 = .ok (.ldc_w 267, 3) := by decide +kernel
theorem dJ6_bitCount_0f7a4_32 : decode cJ6_bitCount_0f7a4 32 = .ok (.iand, 1) := by decide +kernel
theorem dJ6_bitCount_0f7a4_33 : decode cJ6_bitCount_0f7a4 33 = .ok (.istore_n 0, 1) := by decide +kernel
theorem dJ6_bitCount_0f7a4_34 : decode cJ6_bitCount_0f7a4 34 = .ok (.iload_n 0, 1) := by decide +kernel
theorem dJ6_bitCount_0f7a4_35 : decode cJ6_bitCount_0f7a4 35 = .ok (.iload_n 0, 1) := by decide +kernel
theorem dJ6_bitCount_0f7a4_36 : decode cJ6_bitCount_0f7a4 36 = .ok (.bipush 8, 2) := by decide +kernel
theorem dJ6_bitCount_0f7a4_38 : decode cJ6_bitCount_0f7a4 38 = .ok (.iushr, 1) := by decide +kernel
theorem dJ6_bitCount_0f7a4_39 : decode cJ6_bitCount_0f7a4 39 = .ok (.iadd, 1) := by decide +kernel
theorem dJ6_bitCount_0f7a4_40 : decode cJ6_bitCount_0f7a4 40 = .ok (.istore_n 0, 1) := by decide +kernel
theorem dJ6_bitCount_0f7a4_41 : decode cJ6_bitCount_0f7a4 41 = .ok (.iload_n 0, 1) := by decide +kernel
theorem dJ6_bitCount_0f7a4_42 : decode cJ6_bitCount_0f7a4 42 = .ok (.iload_n 0, 1) := by decide +kernel
theorem dJ6_bitCount_0f7a4_43 : decode cJ6_bitCount_0f7a4 43 = .ok (.bipush 16, 2) := by decide +kernel
theorem dJ6_bitCount_0f7a4_45 : decode cJ6_bitCount_0f7a4 45 = .ok (.iushr, 1) := by decide +kernel
theorem dJ6_bitCount_0f7a4_46 : decode cJ6_bitCount_0f7a4 46 = .ok (.iadd, 1) := by decide +kernel
theorem dJ6_bitCount_0f7a4_47 : decode cJ6_bitCount_0f7a4 47 = .ok (.istore_n 0, 1) := by decide +kernel
theorem dJ6_bitCount_0f7a4_48 : decode cJ6_bitCount_0f7a4 48 = .ok (.iload_n 0, 1) := by decide +kernel
theorem dJ6_bitCount_0f7a4_49 : decode cJ6_bitCount_0f7a4 49 = .ok (.bipush 63, 2) := by decide +kernel
theorem dJ6_bitCount_0f7a4_51 : decode cJ6_bitCount_0f7a4 51 = .ok (.iand, 1) := by decide +kernel
theorem dJ6_bitCount_0f7a4_52 : decode cJ6_bitCount_0f7a4 52 = .ok (.ireturn, 1) := by decide +kernel
theorem lk_J6_bitCount_0f7a4_0 : Cond.constant RJ6 265 1431655765 ∈ wsJ6_bitCount_0f7a4 := by decide +kernel
theorem lk_J6_bitCount_0f7a4_1 : Cond.constant RJ6 266 858993459 ∈ wsJ6_bitCount_0f7a4 := by decide +kernel
theorem lk_J6_bitCount_0f7a4_2 : Cond.constant RJ6 267 252645135 ∈ wsJ6_bitCount_0f7a4 := by decide +kernel
set_option maxRecDepth 100000 in
theorem r_J6_bitCount_0f7a4_0 {X : Bn} (C : Cx X cJ6_bitCount_0f7a4 1 RJ6 wsJ6_bitCount_0f7a4 0 0) {ws : va_W} (x0 : Int32) (h : Ends X (some .int) (some (.int ((((((((x0 - ((iush x0 1) &&& 1431655765)) &&& 858993459) + ((iush (x0 - ((iush x0 1) &&& 1431655765)) 2) &&& 858993459)) + (iush (((x0 - ((iush x0 1) &&& 1431655765)) &&& 858993459) + ((iush (x0 - ((iush x0 1) &&& 1431655765)) 2) &&& 858993459)) 4)) &&& 252645135) + (iush (((((x0 - ((iush x0 1) &&& 1431655765)) &&& 858993459) + ((iush (x0 - ((iush x0 1) &&& 1431655765)) 2) &&& 858993459)) + (iush (((x0 - ((iush x0 1) &&& 1431655765)) &&& 858993459) + ((iush (x0 - ((iush x0 1) &&& 1431655765)) 2) &&& 858993459)) 4)) &&& 252645135) 8)) + (iush ((((((x0 - ((iush x0 1) &&& 1431655765)) &&& 858993459) + ((iush (x0 - ((iush x0 1) &&& 1431655765)) 2) &&& 858993459)) + (iush (((x0 - ((iush x0 1) &&& 1431655765)) &&& 858993459) + ((iush (x0 - ((iush x0 1) &&& 1431655765)) 2) &&& 858993459)) 4)) &&& 252645135) + (iush (((((x0 - ((iush x0 1) &&& 1431655765)) &&& 858993459) + ((iush (x0 - ((iush x0 1) &&& 1431655765)) 2) &&& 858993459)) + (iush (((x0 - ((iush x0 1) &&& 1431655765)) &&& 858993459) + ((iush (x0 - ((iush x0 1) &&& 1431655765)) 2) &&& 858993459)) 4)) &&& 252645135) 8)) 16)) &&& 63))) (ws)) : At X 1 (ws) 0 [(0, .int x0)] [] := by
  refine at_iload_n C dJ6_bitCount_0f7a4_0 rfl (j := 0) rfl ?_
  refine at_iload_n C dJ6_bitCount_0f7a4_1 rfl (j := 0) rfl ?_
  refine at_iconst C dJ6_bitCount_0f7a4_2 (v := 1) rfl ?_
  refine at_iushr C dJ6_bitCount_0f7a4_3 ?_
  refine at_ldc_w C lk_J6_bitCount_0f7a4_0 dJ6_bitCount_0f7a4_4 ?_
  refine at_iand C dJ6_bitCount_0f7a4_7 ?_
  refine at_isub C dJ6_bitCount_0f7a4_8 ?_
  refine at_istore_n C dJ6_bitCount_0f7a4_9 rfl (by decide) (lv' := [(0, .int (x0 - ((iush x0 1) &&& 1431655765)))]) rfl ?_
  refine at_iload_n C dJ6_bitCount_0f7a4_10 rfl (j := 0) rfl ?_
  refine at_ldc_w C lk_J6_bitCount_0f7a4_1 dJ6_bitCount_0f7a4_11 ?_
  refine at_iand C dJ6_bitCount_0f7a4_14 ?_
  refine at_iload_n C dJ6_bitCount_0f7a4_15 rfl (j := 0) rfl ?_
  refine at_iconst C dJ6_bitCount_0f7a4_16 (v := 2) rfl ?_
  refine at_iushr C dJ6_bitCount_0f7a4_17 ?_
  refine at_ldc_w C lk_J6_bitCount_0f7a4_1 dJ6_bitCount_0f7a4_18 ?_
  refine at_iand C dJ6_bitCount_0f7a4_21 ?_
  refine at_iadd C dJ6_bitCount_0f7a4_22 ?_
  refine at_istore_n C dJ6_bitCount_0f7a4_23 rfl (by decide) (lv' := [(0, .int (((x0 - ((iush x0 1) &&& 1431655765)) &&& 858993459) + ((iush (x0 - ((iush x0 1) &&& 1431655765)) 2) &&& 858993459)))]) rfl ?_
  refine at_iload_n C dJ6_bitCount_0f7a4_24 rfl (j := 0) rfl ?_
  refine at_iload_n C dJ6_bitCount_0f7a4_25 rfl (j := 0) rfl ?_
  refine at_iconst C dJ6_bitCount_0f7a4_26 (v := 4) rfl ?_
  refine at_iushr C dJ6_bitCount_0f7a4_27 ?_
  refine at_iadd C dJ6_bitCount_0f7a4_28 ?_
  refine at_ldc_w C lk_J6_bitCount_0f7a4_2 dJ6_bitCount_0f7a4_29 ?_
  refine at_iand C dJ6_bitCount_0f7a4_32 ?_
  refine at_istore_n C dJ6_bitCount_0f7a4_33 rfl (by decide) (lv' := [(0, .int (((((x0 - ((iush x0 1) &&& 1431655765)) &&& 858993459) + ((iush (x0 - ((iush x0 1) &&& 1431655765)) 2) &&& 858993459)) + (iush (((x0 - ((iush x0 1) &&& 1431655765)) &&& 858993459) + ((iush (x0 - ((iush x0 1) &&& 1431655765)) 2) &&& 858993459)) 4)) &&& 252645135))]) rfl ?_
  refine at_iload_n C dJ6_bitCount_0f7a4_34 rfl (j := 0) rfl ?_
  refine at_iload_n C dJ6_bitCount_0f7a4_35 rfl (j := 0) rfl ?_
  refine at_bipush C dJ6_bitCount_0f7a4_36 (v := 8) rfl ?_
  refine at_iushr C dJ6_bitCount_0f7a4_38 ?_
  refine at_iadd C dJ6_bitCount_0f7a4_39 ?_
  refine at_istore_n C dJ6_bitCount_0f7a4_40 rfl (by decide) (lv' := [(0, .int ((((((x0 - ((iush x0 1) &&& 1431655765)) &&& 858993459) + ((iush (x0 - ((iush x0 1) &&& 1431655765)) 2) &&& 858993459)) + (iush (((x0 - ((iush x0 1) &&& 1431655765)) &&& 858993459) + ((iush (x0 - ((iush x0 1) &&& 1431655765)) 2) &&& 858993459)) 4)) &&& 252645135) + (iush (((((x0 - ((iush x0 1) &&& 1431655765)) &&& 858993459) + ((iush (x0 - ((iush x0 1) &&& 1431655765)) 2) &&& 858993459)) + (iush (((x0 - ((iush x0 1) &&& 1431655765)) &&& 858993459) + ((iush (x0 - ((iush x0 1) &&& 1431655765)) 2) &&& 858993459)) 4)) &&& 252645135) 8)))]) rfl ?_
  refine at_iload_n C dJ6_bitCount_0f7a4_41 rfl (j := 0) rfl ?_
  refine at_iload_n C dJ6_bitCount_0f7a4_42 rfl (j := 0) rfl ?_
  refine at_bipush C dJ6_bitCount_0f7a4_43 (v := 16) rfl ?_
  refine at_iushr C dJ6_bitCount_0f7a4_45 ?_
  refine at_iadd C dJ6_bitCount_0f7a4_46 ?_
  refine at_istore_n C dJ6_bitCount_0f7a4_47 rfl (by decide) (lv' := [(0, .int (((((((x0 - ((iush x0 1) &&& 1431655765)) &&& 858993459) + ((iush (x0 - ((iush x0 1) &&& 1431655765)) 2) &&& 858993459)) + (iush (((x0 - ((iush x0 1) &&& 1431655765)) &&& 858993459) + ((iush (x0 - ((iush x0 1) &&& 1431655765)) 2) &&& 858993459)) 4)) &&& 252645135) + (iush (((((x0 - ((iush x0 1) &&& 1431655765)) &&& 858993459) + ((iush (x0 - ((iush x0 1) &&& 1431655765)) 2) &&& 858993459)) + (iush (((x0 - ((iush x0 1) &&& 1431655765)) &&& 858993459) + ((iush (x0 - ((iush x0 1) &&& 1431655765)) 2) &&& 858993459)) 4)) &&& 252645135) 8)) + (iush ((((((x0 - ((iush x0 1) &&& 1431655765)) &&& 858993459) + ((iush (x0 - ((iush x0 1) &&& 1431655765)) 2) &&& 858993459)) + (iush (((x0 - ((iush x0 1) &&& 1431655765)) &&& 858993459) + ((iush (x0 - ((iush x0 1) &&& 1431655765)) 2) &&& 858993459)) 4)) &&& 252645135) + (iush (((((x0 - ((iush x0 1) &&& 1431655765)) &&& 858993459) + ((iush (x0 - ((iush x0 1) &&& 1431655765)) 2) &&& 858993459)) + (iush (((x0 - ((iush x0 1) &&& 1431655765)) &&& 858993459) + ((iush (x0 - ((iush x0 1) &&& 1431655765)) 2) &&& 858993459)) 4)) &&& 252645135) 8)) 16)))]) rfl ?_
  refine at_iload_n C dJ6_bitCount_0f7a4_48 rfl (j := 0) rfl ?_
  refine at_bipush C dJ6_bitCount_0f7a4_49 (v := 63) rfl ?_
  refine at_iand C dJ6_bitCount_0f7a4_51 ?_
  exact at_iret C dJ6_bitCount_0f7a4_52 h
def f_J6_bitCount_0f7a4 (x0 : Int32) : Int32 := (((((((x0 - ((iush x0 1) &&& 1431655765)) &&& 858993459) + ((iush (x0 - ((iush x0 1) &&& 1431655765)) 2) &&& 858993459)) + (iush (((x0 - ((iush x0 1) &&& 1431655765)) &&& 858993459) + ((iush (x0 - ((iush x0 1) &&& 1431655765)) 2) &&& 858993459)) 4)) &&& 252645135) + (iush (((((x0 - ((iush x0 1) &&& 1431655765)) &&& 858993459) + ((iush (x0 - ((iush x0 1) &&& 1431655765)) 2) &&& 858993459)) + (iush (((x0 - ((iush x0 1) &&& 1431655765)) &&& 858993459) + ((iush (x0 - ((iush x0 1) &&& 1431655765)) 2) &&& 858993459)) 4)) &&& 252645135) 8)) + (iush ((((((x0 - ((iush x0 1) &&& 1431655765)) &&& 858993459) + ((iush (x0 - ((iush x0 1) &&& 1431655765)) 2) &&& 858993459)) + (iush (((x0 - ((iush x0 1) &&& 1431655765)) &&& 858993459) + ((iush (x0 - ((iush x0 1) &&& 1431655765)) 2) &&& 858993459)) 4)) &&& 252645135) + (iush (((((x0 - ((iush x0 1) &&& 1431655765)) &&& 858993459) + ((iush (x0 - ((iush x0 1) &&& 1431655765)) 2) &&& 858993459)) + (iush (((x0 - ((iush x0 1) &&& 1431655765)) &&& 858993459) + ((iush (x0 - ((iush x0 1) &&& 1431655765)) 2) &&& 858993459)) 4)) &&& 252645135) 8)) 16)) &&& 63
set_option maxRecDepth 100000 in
theorem c_J6_bitCount_0f7a4 (l : Launch) (D : va_G) (E : Nat → ClassId) (a1 a2 : Nat) (x0 : Int32) : Fn l D E a1 a2 yJ6_bitCount_0f7a4 wsJ6_bitCount_0f7a4 0 0 [.int x0] ([]) (some (.int (f_J6_bitCount_0f7a4 x0))) ([]) := by
  refine Fn.of (cc := cJ6_bitCount_0f7a4) (maxL := 1) (ret := (some .int)) (own := RJ6) (by decide) rfl rfl rfl (Nat.le_of_ble_eq_true rfl) (fun X h1 h2 h3 h4 h5 C hE => ?_)
  subst h1 h2 h3 h4 h5
  refine r_J6_bitCount_0f7a4_0 C x0 ?_
  simp only [f_J6_bitCount_0f7a4] at hE
  exact hE
theorem dJ13_bitCount_95d88_0 : decode cJ13_bitCount_95d88 0 = .ok (.lload_n 0, 1) := by decide +kernel
theorem dJ13_bitCount_95d88_1 : decode cJ13_bitCount_95d88 1 = .ok (.lload_n 0, 1) := by decide +kernel
theorem dJ13_bitCount_95d88_2 : decode cJ13_bitCount_95d88 2 = .ok (.iconst 1, 1) := by decide +kernel
theorem dJ13_bitCount_95d88_3 : decode cJ13_bitCount_95d88 3 = .ok (.lushr, 1) := by decide +kernel
theorem dJ13_bitCount_95d88_4 : decode cJ13_bitCount_95d88 4 = .ok (.ldc2_w 314, 3) := by decide +kernel
theorem dJ13_bitCount_95d88_7 : decode cJ13_bitCount_95d88 7 = .ok (.land, 1) := by decide +kernel
theorem dJ13_bitCount_95d88_8 : decode cJ13_bitCount_95d88 8 = .ok (.lsub, 1) := by decide +kernel
theorem dJ13_bitCount_95d88_9 : decode cJ13_bitCount_95d88 9 = .ok (.lstore_n 0, 1) := by decide +kernel
theorem dJ13_bitCount_95d88_10 : decode cJ13_bitCount_95d88 10 = .ok (.lload_n 0, 1) := by decide +kernel
theorem dJ13_bitCount_95d88_11 : decode cJ13_bitCount_95d88 11 = .ok (.ldc2_w 316, 3) := by decide +kernel
theorem dJ13_bitCount_95d88_14 : decode cJ13_bitCount_95d88 14 = .ok (.land, 1) := by decide +kernel
theorem dJ13_bitCount_95d88_15 : decode cJ13_bitCount_95d88 15 = .ok (.lload_n 0, 1) := by decide +kernel
theorem dJ13_bitCount_95d88_16 : decode cJ13_bitCount_95d88 16 = .ok (.iconst 2, 1) := by decide +kernel
theorem dJ13_bitCount_95d88_17 : decode cJ13_bitCount_95d88 17 = .ok (.lushr, 1) := by decide +kernel
theorem dJ13_bitCount_95d88_18 : decode cJ13_bitCount_95d88 18 = .ok (.ldc2_w 316, 3) := by decide +kernel
theorem dJ13_bitCount_95d88_21 : decode cJ13_bitCount_95d88 21 = .ok (.land, 1) := by decide +kernel
theorem dJ13_bitCount_95d88_22 : decode cJ13_bitCount_95d88 22 = .ok (.ladd, 1) := by decide +kernel
theorem dJ13_bitCount_95d88_23 : decode cJ13_bitCount_95d88 23 = .ok (.lstore_n 0, 1) := by decide +kernel
theorem dJ13_bitCount_95d88_24 : decode cJ13_bitCount_95d88 24 = .ok (.lload_n 0, 1) := by decide +kernel
theorem dJ13_bitCount_95d88_25 : decode cJ13_bitCount_95d88 25 = .ok (.lload_n 0, 1) := by decide +kernel
theorem dJ13_bitCount_95d88_26 : decode cJ13_bitCount_95d88 26 = .ok (.iconst 4, 1) := by decide +kernel
theorem dJ13_bitCount_95d88_27 : decode cJ13_bitCount_95d88 27 = .ok (.lushr, 1) := by decide +kernel
theorem dJ13_bitCount_95d88_28 : decode cJ13_bitCount_95d88 28 = .ok (.ladd, 1) := by decide +kernel
theorem dJ13_bitCount_95d88_29 : decode cJ13_bitCount_95d88 29 = .ok (.ldc2_w 318, 3) := by decide +kernel
theorem dJ13_bitCount_95d88_32 : decode cJ13_bitCount_95d88 32 = .ok (.land, 1) := by decide +kernel
theorem dJ13_bitCount_95d88_33 : decode cJ13_bitCount_95d88 33 = .ok (.lstore_n 0, 1) := by decide +kernel
theorem dJ13_bitCount_95d88_34 : decode cJ13_bitCount_95d88 34 = .ok (.lload_n 0, 1) := by decide +kernel
theorem dJ13_bitCount_95d88_35 : decode cJ13_bitCount_95d88 35 = .ok (.lload_n 0, 1) := by decide +kernel
theorem dJ13_bitCount_95d88_36 : decode cJ13_bitCount_95d88 36 = .ok (.bipush 8, 2) := by decide +kernel
theorem dJ13_bitCount_95d88_38 : decode cJ13_bitCount_95d88 38 = .ok (.lushr, 1) := by decide +kernel
theorem dJ13_bitCount_95d88_39 : decode cJ13_bitCount_95d88 39 = .ok (.ladd, 1) := by decide +kernel
theorem dJ13_bitCount_95d88_40 : decode cJ13_bitCount_95d88 40 = .ok (.lstore_n 0, 1) := by decide +kernel
theorem dJ13_bitCount_95d88_41 : decode cJ13_bitCount_95d88 41 = .ok (.lload_n 0, 1) := by decide +kernel
theorem dJ13_bitCount_95d88_42 : decode cJ13_bitCount_95d88 42 = .ok (.lload_n 0, 1) := by decide +kernel
theorem dJ13_bitCount_95d88_43 : decode cJ13_bitCount_95d88 43 = .ok (.bipush 16, 2) := by decide +kernel
theorem dJ13_bitCount_95d88_45 : decode cJ13_bitCount_95d88 45 = .ok (.lushr, 1) := by decide +kernel
theorem dJ13_bitCount_95d88_46 : decode cJ13_bitCount_95d88 46 = .ok (.ladd, 1) := by decide +kernel
theorem dJ13_bitCount_95d88_47 : decode cJ13_bitCount_95d88 47 = .ok (.lstore_n 0, 1) := by decide +kernel
theorem dJ13_bitCount_95d88_48 : decode cJ13_bitCount_95d88 48 = .ok (.lload_n 0, 1) := by decide +kernel
theorem dJ13_bitCount_95d88_49 : decode cJ13_bitCount_95d88 49 = .ok (.lload_n 0, 1) := by decide +kernel
theorem dJ13_bitCount_95d88_50 : decode cJ13_bitCount_95d88 50 = .ok (.bipush 32, 2) := by decide +kernel
theorem dJ13_bitCount_95d88_52 : decode cJ13_bitCount_95d88 52 = .ok (.lushr, 1) := by decide +kernel
theorem dJ13_bitCount_95d88_53 : decode cJ13_bitCount_95d88 53 = .ok (.ladd, 1) := by decide +kernel
theorem dJ13_bitCount_95d88_54 : decode cJ13_bitCount_95d88 54 = .ok (.lstore_n 0, 1) := by decide +kernel
theorem dJ13_bitCount_95d88_55 : decode cJ13_bitCount_95d88 55 = .ok (.lload_n 0, 1) := by decide +kernel
theorem dJ13_bitCount_95d88_56 : decode cJ13_bitCount_95d88 56 = .ok (.l2i, 1) := by decide +kernel
theorem dJ13_bitCount_95d88_57 : decode cJ13_bitCount_95d88 57 = .ok (.bipush 127, 2) := by decide +kernel
theorem dJ13_bitCount_95d88_59 : decode cJ13_bitCount_95d88 59 = .ok (.iand, 1) := by decide +kernel
theorem dJ13_bitCount_95d88_60 : decode cJ13_bitCount_95d88 60 = .ok (.ireturn, 1) := by decide +kernel
theorem lk_J13_bitCount_95d88_0 : Cond.constantLong RJ13 314 6148914691236517205 ∈ wsJ13_bitCount_95d88 := by decide +kernel
theorem lk_J13_bitCount_95d88_1 : Cond.constantLong RJ13 316 3689348814741910323 ∈ wsJ13_bitCount_95d88 := by decide +kernel
theorem lk_J13_bitCount_95d88_2 : Cond.constantLong RJ13 318 1085102592571150095 ∈ wsJ13_bitCount_95d88 := by decide +kernel
set_option maxRecDepth 100000 in
theorem r_J13_bitCount_95d88_0 {X : Bn} (C : Cx X cJ13_bitCount_95d88 2 RJ13 wsJ13_bitCount_95d88 0 0) {ws : va_W} (x0 : Int64) (h : Ends X (some .int) (some (.int ((((((((((x0 - ((lush x0 1) &&& 6148914691236517205)) &&& 3689348814741910323) + ((lush (x0 - ((lush x0 1) &&& 6148914691236517205)) 2) &&& 3689348814741910323)) + (lush (((x0 - ((lush x0 1) &&& 6148914691236517205)) &&& 3689348814741910323) + ((lush (x0 - ((lush x0 1) &&& 6148914691236517205)) 2) &&& 3689348814741910323)) 4)) &&& 1085102592571150095) + (lush (((((x0 - ((lush x0 1) &&& 6148914691236517205)) &&& 3689348814741910323) + ((lush (x0 - ((lush x0 1) &&& 6148914691236517205)) 2) &&& 3689348814741910323)) + (lush (((x0 - ((lush x0 1) &&& 6148914691236517205)) &&& 3689348814741910323) + ((lush (x0 - ((lush x0 1) &&& 6148914691236517205)) 2) &&& 3689348814741910323)) 4)) &&& 1085102592571150095) 8)) + (lush ((((((x0 - ((lush x0 1) &&& 6148914691236517205)) &&& 3689348814741910323) + ((lush (x0 - ((lush x0 1) &&& 6148914691236517205)) 2) &&& 3689348814741910323)) + (lush (((x0 - ((lush x0 1) &&& 6148914691236517205)) &&& 3689348814741910323) + ((lush (x0 - ((lush x0 1) &&& 6148914691236517205)) 2) &&& 3689348814741910323)) 4)) &&& 1085102592571150095) + (lush (((((x0 - ((lush x0 1) &&& 6148914691236517205)) &&& 3689348814741910323) + ((lush (x0 - ((lush x0 1) &&& 6148914691236517205)) 2) &&& 3689348814741910323)) + (lush (((x0 - ((lush x0 1) &&& 6148914691236517205)) &&& 3689348814741910323) + ((lush (x0 - ((lush x0 1) &&& 6148914691236517205)) 2) &&& 3689348814741910323)) 4)) &&& 1085102592571150095) 8)) 16)) + (lush (((((((x0 - ((lush x0 1) &&& 6148914691236517205)) &&& 3689348814741910323) + ((lush (x0 - ((lush x0 1) &&& 6148914691236517205)) 2) &&& 3689348814741910323)) + (lush (((x0 - ((lush x0 1) &&& 6148914691236517205)) &&& 3689348814741910323) + ((lush (x0 - ((lush x0 1) &&& 6148914691236517205)) 2) &&& 3689348814741910323)) 4)) &&& 1085102592571150095) + (lush (((((x0 - ((lush x0 1) &&& 6148914691236517205)) &&& 3689348814741910323) + ((lush (x0 - ((lush x0 1) &&& 6148914691236517205)) 2) &&& 3689348814741910323)) + (lush (((x0 - ((lush x0 1) &&& 6148914691236517205)) &&& 3689348814741910323) + ((lush (x0 - ((lush x0 1) &&& 6148914691236517205)) 2) &&& 3689348814741910323)) 4)) &&& 1085102592571150095) 8)) + (lush ((((((x0 - ((lush x0 1) &&& 6148914691236517205)) &&& 3689348814741910323) + ((lush (x0 - ((lush x0 1) &&& 6148914691236517205)) 2) &&& 3689348814741910323)) + (lush (((x0 - ((lush x0 1) &&& 6148914691236517205)) &&& 3689348814741910323) + ((lush (x0 - ((lush x0 1) &&& 6148914691236517205)) 2) &&& 3689348814741910323)) 4)) &&& 1085102592571150095) + (lush (((((x0 - ((lush x0 1) &&& 6148914691236517205)) &&& 3689348814741910323) + ((lush (x0 - ((lush x0 1) &&& 6148914691236517205)) 2) &&& 3689348814741910323)) + (lush (((x0 - ((lush x0 1) &&& 6148914691236517205)) &&& 3689348814741910323) + ((lush (x0 - ((lush x0 1) &&& 6148914691236517205)) 2) &&& 3689348814741910323)) 4)) &&& 1085102592571150095) 8)) 16)) 32)).toInt32) &&& 127))) (ws)) : At X 2 (ws) 0 [(0, .long x0)] [] := by
  refine at_lload_n C dJ13_bitCount_95d88_0 rfl (j := 0) rfl ?_
  refine at_lload_n C dJ13_bitCount_95d88_1 rfl (j := 0) rfl ?_
  refine at_iconst C dJ13_bitCount_95d88_2 (v := 1) rfl ?_
  refine at_lushr C dJ13_bitCount_95d88_3 ?_
  refine at_ldc2 C lk_J13_bitCount_95d88_0 dJ13_bitCount_95d88_4 ?_
  refine at_land C dJ13_bitCount_95d88_7 ?_
  refine at_lsub C dJ13_bitCount_95d88_8 ?_
  refine at_lstore_n C dJ13_bitCount_95d88_9 rfl (by decide) (lv' := [(0, .long (x0 - ((lush x0 1) &&& 6148914691236517205)))]) rfl ?_
  refine at_lload_n C dJ13_bitCount_95d88_10 rfl (j := 0) rfl ?_
  refine at_ldc2 C lk_J13_bitCount_95d88_1 dJ13_bitCount_95d88_11 ?_
  refine at_land C dJ13_bitCount_95d88_14 ?_
  refine at_lload_n C dJ13_bitCount_95d88_15 rfl (j := 0) rfl ?_
  refine at_iconst C dJ13_bitCount_95d88_16 (v := 2) rfl ?_
  refine at_lushr C dJ13_bitCount_95d88_17 ?_
  refine at_ldc2 C lk_J13_bitCount_95d88_1 dJ13_bitCount_95d88_18 ?_
  refine at_land C dJ13_bitCount_95d88_21 ?_
  refine at_ladd C dJ13_bitCount_95d88_22 ?_
  refine at_lstore_n C dJ13_bitCount_95d88_23 rfl (by decide) (lv' := [(0, .long (((x0 - ((lush x0 1) &&& 6148914691236517205)) &&& 3689348814741910323) + ((lush (x0 - ((lush x0 1) &&& 6148914691236517205)) 2) &&& 3689348814741910323)))]) rfl ?_
  refine at_lload_n C dJ13_bitCount_95d88_24 rfl (j := 0) rfl ?_
  refine at_lload_n C dJ13_bitCount_95d88_25 rfl (j := 0) rfl ?_
  refine at_iconst C dJ13_bitCount_95d88_26 (v := 4) rfl ?_
  refine at_lushr C dJ13_bitCount_95d88_27 ?_
  refine at_ladd C dJ13_bitCount_95d88_28 ?_
  refine at_ldc2 C lk_J13_bitCount_95d88_2 dJ13_bitCount_95d88_29 ?_
  refine at_land C dJ13_bitCount_95d88_32 ?_
  refine at_lstore_n C dJ13_bitCount_95d88_33 rfl (by decide) (lv' := [(0, .long (((((x0 - ((lush x0 1) &&& 6148914691236517205)) &&& 3689348814741910323) + ((lush (x0 - ((lush x0 1) &&& 6148914691236517205)) 2) &&& 3689348814741910323)) + (lush (((x0 - ((lush x0 1) &&& 6148914691236517205)) &&& 3689348814741910323) + ((lush (x0 - ((lush x0 1) &&& 6148914691236517205)) 2) &&& 3689348814741910323)) 4)) &&& 1085102592571150095))]) rfl ?_
  refine at_lload_n C dJ13_bitCount_95d88_34 rfl (j := 0) rfl ?_
  refine at_lload_n C dJ13_bitCount_95d88_35 rfl (j := 0) rfl ?_
  refine at_bipush C dJ13_bitCount_95d88_36 (v := 8) rfl ?_
  refine at_lushr C dJ13_bitCount_95d88_38 ?_
  refine at_ladd C dJ13_bitCount_95d88_39 ?_
  refine at_lstore_n C dJ13_bitCount_95d88_40 rfl (by decide) (lv' := [(0, .long ((((((x0 - ((lush x0 1) &&& 6148914691236517205)) &&& 3689348814741910323) + ((lush (x0 - ((lush x0 1) &&& 6148914691236517205)) 2) &&& 3689348814741910323)) + (lush (((x0 - ((lush x0 1) &&& 6148914691236517205)) &&& 3689348814741910323) + ((lush (x0 - ((lush x0 1) &&& 6148914691236517205)) 2) &&& 3689348814741910323)) 4)) &&& 1085102592571150095) + (lush (((((x0 - ((lush x0 1) &&& 6148914691236517205)) &&& 3689348814741910323) + ((lush (x0 - ((lush x0 1) &&& 6148914691236517205)) 2) &&& 3689348814741910323)) + (lush (((x0 - ((lush x0 1) &&& 6148914691236517205)) &&& 3689348814741910323) + ((lush (x0 - ((lush x0 1) &&& 6148914691236517205)) 2) &&& 3689348814741910323)) 4)) &&& 1085102592571150095) 8)))]) rfl ?_
  refine at_lload_n C dJ13_bitCount_95d88_41 rfl (j := 0) rfl ?_
  refine at_lload_n C dJ13_bitCount_95d88_42 rfl (j := 0) rfl ?_
  refine at_bipush C dJ13_bitCount_95d88_43 (v := 16) rfl ?_
  refine at_lushr C dJ13_bitCount_95d88_45 ?_
  refine at_ladd C dJ13_bitCount_95d88_46 ?_
  refine at_lstore_n C dJ13_bitCount_95d88_47 rfl (by decide) (lv' := [(0, .long (((((((x0 - ((lush x0 1) &&& 6148914691236517205)) &&& 3689348814741910323) + ((lush (x0 - ((lush x0 1) &&& 6148914691236517205)) 2) &&& 3689348814741910323)) + (lush (((x0 - ((lush x0 1) &&& 6148914691236517205)) &&& 3689348814741910323) + ((lush (x0 - ((lush x0 1) &&& 6148914691236517205)) 2) &&& 3689348814741910323)) 4)) &&& 1085102592571150095) + (lush (((((x0 - ((lush x0 1) &&& 6148914691236517205)) &&& 3689348814741910323) + ((lush (x0 - ((lush x0 1) &&& 6148914691236517205)) 2) &&& 3689348814741910323)) + (lush (((x0 - ((lush x0 1) &&& 6148914691236517205)) &&& 3689348814741910323) + ((lush (x0 - ((lush x0 1) &&& 6148914691236517205)) 2) &&& 3689348814741910323)) 4)) &&& 1085102592571150095) 8)) + (lush ((((((x0 - ((lush x0 1) &&& 6148914691236517205)) &&& 3689348814741910323) + ((lush (x0 - ((lush x0 1) &&& 6148914691236517205)) 2) &&& 3689348814741910323)) + (lush (((x0 - ((lush x0 1) &&& 6148914691236517205)) &&& 3689348814741910323) + ((lush (x0 - ((lush x0 1) &&& 6148914691236517205)) 2) &&& 3689348814741910323)) 4)) &&& 1085102592571150095) + (lush (((((x0 - ((lush x0 1) &&& 6148914691236517205)) &&& 3689348814741910323) + ((lush (x0 - ((lush x0 1) &&& 6148914691236517205)) 2) &&& 3689348814741910323)) + (lush (((x0 - ((lush x0 1) &&& 6148914691236517205)) &&& 3689348814741910323) + ((lush (x0 - ((lush x0 1) &&& 6148914691236517205)) 2) &&& 3689348814741910323)) 4)) &&& 1085102592571150095) 8)) 16)))]) rfl ?_
  refine at_lload_n C dJ13_bitCount_95d88_48 rfl (j := 0) rfl ?_
  refine at_lload_n C dJ13_bitCount_95d88_49 rfl (j := 0) rfl ?_
  refine at_bipush C dJ13_bitCount_95d88_50 (v := 32) rfl ?_
  refine at_lushr C dJ13_bitCount_95d88_52 ?_
  refine at_ladd C dJ13_bitCount_95d88_53 ?_
  refine at_lstore_n C dJ13_bitCount_95d88_54 rfl (by decide) (lv' := [(0, .long ((((((((x0 - ((lush x0 1) &&& 6148914691236517205)) &&& 3689348814741910323) + ((lush (x0 - ((lush x0 1) &&& 6148914691236517205)) 2) &&& 3689348814741910323)) + (lush (((x0 - ((lush x0 1) &&& 6148914691236517205)) &&& 3689348814741910323) + ((lush (x0 - ((lush x0 1) &&& 6148914691236517205)) 2) &&& 3689348814741910323)) 4)) &&& 1085102592571150095) + (lush (((((x0 - ((lush x0 1) &&& 6148914691236517205)) &&& 3689348814741910323) + ((lush (x0 - ((lush x0 1) &&& 6148914691236517205)) 2) &&& 3689348814741910323)) + (lush (((x0 - ((lush x0 1) &&& 6148914691236517205)) &&& 3689348814741910323) + ((lush (x0 - ((lush x0 1) &&& 6148914691236517205)) 2) &&& 3689348814741910323)) 4)) &&& 1085102592571150095) 8)) + (lush ((((((x0 - ((lush x0 1) &&& 6148914691236517205)) &&& 3689348814741910323) + ((lush (x0 - ((lush x0 1) &&& 6148914691236517205)) 2) &&& 3689348814741910323)) + (lush (((x0 - ((lush x0 1) &&& 6148914691236517205)) &&& 3689348814741910323) + ((lush (x0 - ((lush x0 1) &&& 6148914691236517205)) 2) &&& 3689348814741910323)) 4)) &&& 1085102592571150095) + (lush (((((x0 - ((lush x0 1) &&& 6148914691236517205)) &&& 3689348814741910323) + ((lush (x0 - ((lush x0 1) &&& 6148914691236517205)) 2) &&& 3689348814741910323)) + (lush (((x0 - ((lush x0 1) &&& 6148914691236517205)) &&& 3689348814741910323) + ((lush (x0 - ((lush x0 1) &&& 6148914691236517205)) 2) &&& 3689348814741910323)) 4)) &&& 1085102592571150095) 8)) 16)) + (lush (((((((x0 - ((lush x0 1) &&& 6148914691236517205)) &&& 3689348814741910323) + ((lush (x0 - ((lush x0 1) &&& 6148914691236517205)) 2) &&& 3689348814741910323)) + (lush (((x0 - ((lush x0 1) &&& 6148914691236517205)) &&& 3689348814741910323) + ((lush (x0 - ((lush x0 1) &&& 6148914691236517205)) 2) &&& 3689348814741910323)) 4)) &&& 1085102592571150095) + (lush (((((x0 - ((lush x0 1) &&& 6148914691236517205)) &&& 3689348814741910323) + ((lush (x0 - ((lush x0 1) &&& 6148914691236517205)) 2) &&& 3689348814741910323)) + (lush (((x0 - ((lush x0 1) &&& 6148914691236517205)) &&& 3689348814741910323) + ((lush (x0 - ((lush x0 1) &&& 6148914691236517205)) 2) &&& 3689348814741910323)) 4)) &&& 1085102592571150095) 8)) + (lush ((((((x0 - ((lush x0 1) &&& 6148914691236517205)) &&& 3689348814741910323) + ((lush (x0 - ((lush x0 1) &&& 6148914691236517205)) 2) &&& 3689348814741910323)) + (lush (((x0 - ((lush x0 1) &&& 6148914691236517205)) &&& 3689348814741910323) + ((lush (x0 - ((lush x0 1) &&& 6148914691236517205)) 2) &&& 3689348814741910323)) 4)) &&& 1085102592571150095) + (lush (((((x0 - ((lush x0 1) &&& 6148914691236517205)) &&& 3689348814741910323) + ((lush (x0 - ((lush x0 1) &&& 6148914691236517205)) 2) &&& 3689348814741910323)) + (lush (((x0 - ((lush x0 1) &&& 6148914691236517205)) &&& 3689348814741910323) + ((lush (x0 - ((lush x0 1) &&& 6148914691236517205)) 2) &&& 3689348814741910323)) 4)) &&& 1085102592571150095) 8)) 16)) 32)))]) rfl ?_
  refine at_lload_n C dJ13_bitCount_95d88_55 rfl (j := 0) rfl ?_
  refine at_l2i C dJ13_bitCount_95d88_56 ?_
  refine at_bipush C dJ13_bitCount_95d88_57 (v := 127) rfl ?_
  refine at_iand C dJ13_bitCount_95d88_59 ?_
  exact at_iret C dJ13_bitCount_95d88_60 h
def f_J13_bitCount_95d88 (x0 : Int64) : Int32 := (((((((((x0 - ((lush x0 1) &&& 6148914691236517205)) &&& 3689348814741910323) + ((lush (x0 - ((lush x0 1) &&& 6148914691236517205)) 2) &&& 3689348814741910323)) + (lush (((x0 - ((lush x0 1) &&& 6148914691236517205)) &&& 3689348814741910323) + ((lush (x0 - ((lush x0 1) &&& 6148914691236517205)) 2) &&& 3689348814741910323)) 4)) &&& 1085102592571150095) + (lush (((((x0 - ((lush x0 1) &&& 6148914691236517205)) &&& 3689348814741910323) + ((lush (x0 - ((lush x0 1) &&& 6148914691236517205)) 2) &&& 3689348814741910323)) + (lush (((x0 - ((lush x0 1) &&& 6148914691236517205)) &&& 3689348814741910323) + ((lush (x0 - ((lush x0 1) &&& 6148914691236517205)) 2) &&& 3689348814741910323)) 4)) &&& 1085102592571150095) 8)) + (lush ((((((x0 - ((lush x0 1) &&& 6148914691236517205)) &&& 3689348814741910323) + ((lush (x0 - ((lush x0 1) &&& 6148914691236517205)) 2) &&& 3689348814741910323)) + (lush (((x0 - ((lush x0 1) &&& 6148914691236517205)) &&& 3689348814741910323) + ((lush (x0 - ((lush x0 1) &&& 6148914691236517205)) 2) &&& 3689348814741910323)) 4)) &&& 1085102592571150095) + (lush (((((x0 - ((lush x0 1) &&& 6148914691236517205)) &&& 3689348814741910323) + ((lush (x0 - ((lush x0 1) &&& 6148914691236517205)) 2) &&& 3689348814741910323)) + (lush (((x0 - ((lush x0 1) &&& 6148914691236517205)) &&& 3689348814741910323) + ((lush (x0 - ((lush x0 1) &&& 6148914691236517205)) 2) &&& 3689348814741910323)) 4)) &&& 1085102592571150095) 8)) 16)) + (lush (((((((x0 - ((lush x0 1) &&& 6148914691236517205)) &&& 3689348814741910323) + ((lush (x0 - ((lush x0 1) &&& 6148914691236517205)) 2) &&& 3689348814741910323)) + (lush (((x0 - ((lush x0 1) &&& 6148914691236517205)) &&& 3689348814741910323) + ((lush (x0 - ((lush x0 1) &&& 6148914691236517205)) 2) &&& 3689348814741910323)) 4)) &&& 1085102592571150095) + (lush (((((x0 - ((lush x0 1) &&& 6148914691236517205)) &&& 3689348814741910323) + ((lush (x0 - ((lush x0 1) &&& 6148914691236517205)) 2) &&& 3689348814741910323)) + (lush (((x0 - ((lush x0 1) &&& 6148914691236517205)) &&& 3689348814741910323) + ((lush (x0 - ((lush x0 1) &&& 6148914691236517205)) 2) &&& 3689348814741910323)) 4)) &&& 1085102592571150095) 8)) + (lush ((((((x0 - ((lush x0 1) &&& 6148914691236517205)) &&& 3689348814741910323) + ((lush (x0 - ((lush x0 1) &&& 6148914691236517205)) 2) &&& 3689348814741910323)) + (lush (((x0 - ((lush x0 1) &&& 6148914691236517205)) &&& 3689348814741910323) + ((lush (x0 - ((lush x0 1) &&& 6148914691236517205)) 2) &&& 3689348814741910323)) 4)) &&& 1085102592571150095) + (lush (((((x0 - ((lush x0 1) &&& 6148914691236517205)) &&& 3689348814741910323) + ((lush (x0 - ((lush x0 1) &&& 6148914691236517205)) 2) &&& 3689348814741910323)) + (lush (((x0 - ((lush x0 1) &&& 6148914691236517205)) &&& 3689348814741910323) + ((lush (x0 - ((lush x0 1) &&& 6148914691236517205)) 2) &&& 3689348814741910323)) 4)) &&& 1085102592571150095) 8)) 16)) 32)).toInt32) &&& 127
set_option maxRecDepth 100000 in
theorem c_J13_bitCount_95d88 (l : Launch) (D : va_G) (E : Nat → ClassId) (a1 a2 : Nat) (x0 : Int64) : Fn l D E a1 a2 yJ13_bitCount_95d88 wsJ13_bitCount_95d88 0 0 [.long x0] ([]) (some (.int (f_J13_bitCount_95d88 x0))) ([]) := by
  refine Fn.of (cc := cJ13_bitCount_95d88) (maxL := 2) (ret := (some .int)) (own := RJ13) (by decide) rfl rfl rfl (Nat.le_of_ble_eq_true rfl) (fun X h1 h2 h3 h4 h5 C hE => ?_)
  subst h1 h2 h3 h4 h5
  refine r_J13_bitCount_95d88_0 C x0 ?_
  simp only [f_J13_bitCount_95d88] at hE
  exact hE
set_option maxRecDepth 20000 in
theorem ggX7_isEcho_X7_within : GoodIn wsX7_isEcho wsX7_within := goodIn_r _ [4] (by decide +kernel) (by decide +kernel)
set_option maxRecDepth 20000 in
theorem gX7_isEcho_X7_within : GoodIn wsX7_isEcho (va_wsS RX7 64 yX7_within wsX7_within) := goodIn_app (goodIn_of _ (by decide +kernel)) ggX7_isEcho_X7_within
theorem dX7_isEcho_0 : decode cX7_isEcho 0 = .ok (.iload_n 0, 1) := by decide +kernel
theorem dX7_isEcho_1 : decode cX7_isEcho 1 = .ok (.iconst (-1), 1) := by decide +kernel
theorem dX7_isEcho_2 : decode cX7_isEcho 2 = .ok (.if_icmp .eq 12, 3) := by decide +kernel
theorem dX7_isEcho_5 : decode cX7_isEcho 5 = .ok (.iload_n 0, 1) := by decide +kernel
theorem dX7_isEcho_6 : decode cX7_isEcho 6 = .ok (.bipush 8, 2) := by decide +kernel
theorem dX7_isEcho_8 : decode cX7_isEcho 8 = .ok (.invokestatic 64, 3) := by decide +kernel
theorem dX7_isEcho_11 : decode cX7_isEcho 11 = .ok (.ifCond .eq 7, 3) := by decide +kernel
theorem dX7_isEcho_14 : decode cX7_isEcho 14 = .ok (.iconst 1, 1) := by decide +kernel
theorem dX7_isEcho_15 : decode cX7_isEcho 15 = .ok (.goto 4, 3) := by decide +kernel
theorem dX7_isEcho_18 : decode cX7_isEcho 18 = .ok (.iconst 0, 1) := by decide +kernel
theorem dX7_isEcho_19 : decode cX7_isEcho 19 = .ok (.ireturn, 1) := by decide +kernel
set_option maxRecDepth 100000 in
theorem r_X7_isEcho_0 {X : Bn} (C : Cx X cX7_isEcho 1 RX7 wsX7_isEcho 1 21) {ws : va_W} (x0 : Int32) (h : Ends X (some .boolean) (some (.int (b2i (if x0 = (-1) then true else (if (f_X7_within x0 (8 : Int32)) then true else false))))) (ws)) : At X 1 (ws) 0 [(0, .int x0)] [] := by
  refine at_iload_n C dX7_isEcho_0 rfl (j := 0) rfl ?_
  refine at_iconst C dX7_isEcho_1 (v := (-1)) rfl ?_
  have K : At X 1 (ws) 19 [] [.int (b2i (if x0 = (-1) then true else (if (f_X7_within x0 (8 : Int32)) then true else false)))] := by
    exact at_zret C dX7_isEcho_19 (b2i_nar _) h
  refine at_icmp_eq C dX7_isEcho_2 (tgt := 14) (by decide) (fun hc0 => ?_) (fun hc0 => ?_)
  · skip
    refine at_iconst C dX7_isEcho_14 (v := 1) rfl ?_
    refine at_goto C dX7_isEcho_15 (tgt := 19) (by decide) ?_
    refine at_lv [] rfl ?_
    first | (simp only [if_pos hc0] at K; exact K) | exact K
  · skip
    refine at_iload_n C dX7_isEcho_5 rfl (j := 0) rfl ?_
    refine at_bipush C dX7_isEcho_6 (v := 8) rfl ?_
    refine at_cS0 C 2 (c_X7_within X.l X.D X.E X.a1 X.a2 x0 (8 : Int32)) gX7_isEcho_X7_within rfl (by decide +kernel) ⟨rfl, rfl⟩ rfl rfl rfl dX7_isEcho_8 ?_
    refine at_ifB_eq C dX7_isEcho_11 (tgt := 18) (by decide) (fun hc1 => ?_) (fun hc1 => ?_)
    · skip
      refine at_iconst C dX7_isEcho_18 (v := 0) rfl ?_
      refine at_lv [] rfl ?_
      first | (simp only [if_neg hc0, if_neg (show ¬ (f_X7_within x0 (8 : Int32)) = true by rw [hc1]; decide)] at K; exact K) | exact K
    · skip
      refine at_iconst C dX7_isEcho_14 (v := 1) rfl ?_
      refine at_goto C dX7_isEcho_15 (tgt := 19) (by decide) ?_
      refine at_lv [] rfl ?_
      first | (simp only [if_neg hc0, if_pos hc1] at K; exact K) | exact K
def f_X7_isEcho (x0 : Int32) : Bool := (if x0 = (-1) then true else (if (f_X7_within x0 (8 : Int32)) then true else false))
set_option maxRecDepth 100000 in
theorem c_X7_isEcho (l : Launch) (D : va_G) (E : Nat → ClassId) (a1 a2 : Nat) (x0 : Int32) : Fn l D E a1 a2 yX7_isEcho wsX7_isEcho 1 21 [.int x0] ([]) (some (.int (b2i (f_X7_isEcho x0)))) ([]) := by
  refine Fn.of (cc := cX7_isEcho) (maxL := 1) (ret := (some .boolean)) (own := RX7) (by decide) rfl rfl rfl (Nat.le_of_ble_eq_true rfl) (fun X h1 h2 h3 h4 h5 C hE => ?_)
  subst h1 h2 h3 h4 h5
  refine r_X7_isEcho_0 C x0 ?_
  simp only [f_X7_isEcho, b2i_t, b2i_f] at hE
  exact hE
theorem dX3_figure_0 : decode cX3_figure 0 = .ok (.iload_n 0, 1) := by decide +kernel
theorem dX3_figure_1 : decode cX3_figure 1 = .ok (.bipush 48, 2) := by decide +kernel
theorem dX3_figure_3 : decode cX3_figure 3 = .ok (.if_icmp .lt 14, 3) := by decide +kernel
theorem dX3_figure_6 : decode cX3_figure 6 = .ok (.iload_n 0, 1) := by decide +kernel
theorem dX3_figure_7 : decode cX3_figure 7 = .ok (.bipush 57, 2) := by decide +kernel
theorem dX3_figure_9 : decode cX3_figure 9 = .ok (.if_icmp .gt 8, 3) := by decide +kernel
theorem dX3_figure_12 : decode cX3_figure 12 = .ok (.iload_n 0, 1) := by decide +kernel
theorem dX3_figure_13 : decode cX3_figure 13 = .ok (.bipush 48, 2) := by decide +kernel
theorem dX3_figure_15 : decode cX3_figure 15 = .ok (.isub, 1) := by decide +kernel
theorem dX3_figure_16 : decode cX3_figure 16 = .ok (.ireturn, 1) := by decide +kernel
theorem dX3_figure_17 : decode cX3_figure 17 = .ok (.iload_n 0, 1) := by decide +kernel
theorem dX3_figure_18 : decode cX3_figure 18 = .ok (.bipush 97, 2) := by decide +kernel
theorem dX3_figure_20 : decode cX3_figure 20 = .ok (.if_icmp .lt 19, 3) := by decide +kernel
theorem dX3_figure_23 : decode cX3_figure 23 = .ok (.iload_n 0, 1) := by decide +kernel
theorem dX3_figure_24 : decode cX3_figure 24 = .ok (.bipush 102, 2) := by decide +kernel
theorem dX3_figure_26 : decode cX3_figure 26 = .ok (.if_icmp .gt 13, 3) := by decide +kernel
theorem dX3_figure_29 : decode cX3_figure 29 = .ok (.iload_n 0, 1) := by decide +kernel
theorem dX3_figure_30 : decode cX3_figure 30 = .ok (.bipush 97, 2) := by decide +kernel
theorem dX3_figure_32 : decode cX3_figure 32 = .ok (.isub, 1) := by decide +kernel
theorem dX3_figure_33 : decode cX3_figure 33 = .ok (.bipush 10, 2) := by decide +kernel
theorem dX3_figure_35 : decode cX3_figure 35 = .ok (.iadd, 1) := by decide +kernel
theorem dX3_figure_36 : decode cX3_figure 36 = .ok (.goto 4, 3) := by decide +kernel
theorem dX3_figure_39 : decode cX3_figure 39 = .ok (.iconst (-1), 1) := by decide +kernel
theorem dX3_figure_40 : decode cX3_figure 40 = .ok (.ireturn, 1) := by decide +kernel
set_option maxRecDepth 100000 in
theorem r_X3_figure_0 {X : Bn} (C : Cx X cX3_figure 1 RX3 wsX3_figure 0 0) {ws : va_W} (x0 : Int32) (h : ((x0 < 48) → (Ends X (some .int) (some (.int (if x0 < 97 then (-1) else (if 102 < x0 then (-1) else (x0 - 97) + 10)))) (ws))) ∧ (¬ x0 < 48 → (((57 < x0) → (Ends X (some .int) (some (.int (if x0 < 97 then (-1) else (if 102 < x0 then (-1) else (x0 - 97) + 10)))) (ws))) ∧ (¬ 57 < x0 → (Ends X (some .int) (some (.int (x0 - 48))) (ws)))))) : At X 1 (ws) 0 [(0, .int x0)] [] := by
  refine at_iload_n C dX3_figure_0 rfl (j := 0) rfl ?_
  refine at_bipush C dX3_figure_1 (v := 48) rfl ?_
  refine at_icmp_lt C dX3_figure_3 (tgt := 17) (by decide) (fun hc2 => ?_) (fun hc2 => ?_)
  · replace h := h.1 hc2
    refine at_iload_n C dX3_figure_17 rfl (j := 0) rfl ?_
    refine at_bipush C dX3_figure_18 (v := 97) rfl ?_
    have K : At X 1 (ws) 40 [] [.int (if x0 < 97 then (-1) else (if 102 < x0 then (-1) else (x0 - 97) + 10))] := by
      exact at_iret C dX3_figure_40 h
    refine at_icmp_lt C dX3_figure_20 (tgt := 39) (by decide) (fun hc3 => ?_) (fun hc3 => ?_)
    · skip
      refine at_iconst C dX3_figure_39 (v := (-1)) rfl ?_
      refine at_lv [] rfl ?_
      first | (simp only [if_pos hc3] at K; exact K) | exact K
    · skip
      refine at_iload_n C dX3_figure_23 rfl (j := 0) rfl ?_
      refine at_bipush C dX3_figure_24 (v := 102) rfl ?_
      refine at_icmp_gt C dX3_figure_26 (tgt := 39) (by decide) (fun hc4 => ?_) (fun hc4 => ?_)
      · skip
        refine at_iconst C dX3_figure_39 (v := (-1)) rfl ?_
        refine at_lv [] rfl ?_
        first | (simp only [if_neg hc3, if_pos hc4] at K; exact K) | exact K
      · skip
        refine at_iload_n C dX3_figure_29 rfl (j := 0) rfl ?_
        refine at_bipush C dX3_figure_30 (v := 97) rfl ?_
        refine at_isub C dX3_figure_32 ?_
        refine at_bipush C dX3_figure_33 (v := 10) rfl ?_
        refine at_iadd C dX3_figure_35 ?_
        refine at_goto C dX3_figure_36 (tgt := 40) (by decide) ?_
        refine at_lv [] rfl ?_
        first | (simp only [if_neg hc3, if_neg hc4] at K; exact K) | exact K
  · replace h := h.2 hc2
    refine at_iload_n C dX3_figure_6 rfl (j := 0) rfl ?_
    refine at_bipush C dX3_figure_7 (v := 57) rfl ?_
    refine at_icmp_gt C dX3_figure_9 (tgt := 17) (by decide) (fun hc3 => ?_) (fun hc3 => ?_)
    · replace h := h.1 hc3
      refine at_iload_n C dX3_figure_17 rfl (j := 0) rfl ?_
      refine at_bipush C dX3_figure_18 (v := 97) rfl ?_
      have K : At X 1 (ws) 40 [] [.int (if x0 < 97 then (-1) else (if 102 < x0 then (-1) else (x0 - 97) + 10))] := by
        exact at_iret C dX3_figure_40 h
      refine at_icmp_lt C dX3_figure_20 (tgt := 39) (by decide) (fun hc4 => ?_) (fun hc4 => ?_)
      · skip
        refine at_iconst C dX3_figure_39 (v := (-1)) rfl ?_
        refine at_lv [] rfl ?_
        first | (simp only [if_pos hc4] at K; exact K) | exact K
      · skip
        refine at_iload_n C dX3_figure_23 rfl (j := 0) rfl ?_
        refine at_bipush C dX3_figure_24 (v := 102) rfl ?_
        refine at_icmp_gt C dX3_figure_26 (tgt := 39) (by decide) (fun hc5 => ?_) (fun hc5 => ?_)
        · skip
          refine at_iconst C dX3_figure_39 (v := (-1)) rfl ?_
          refine at_lv [] rfl ?_
          first | (simp only [if_neg hc4, if_pos hc5] at K; exact K) | exact K
        · skip
          refine at_iload_n C dX3_figure_29 rfl (j := 0) rfl ?_
          refine at_bipush C dX3_figure_30 (v := 97) rfl ?_
          refine at_isub C dX3_figure_32 ?_
          refine at_bipush C dX3_figure_33 (v := 10) rfl ?_
          refine at_iadd C dX3_figure_35 ?_
          refine at_goto C dX3_figure_36 (tgt := 40) (by decide) ?_
          refine at_lv [] rfl ?_
          first | (simp only [if_neg hc4, if_neg hc5] at K; exact K) | exact K
    · replace h := h.2 hc3
      refine at_iload_n C dX3_figure_12 rfl (j := 0) rfl ?_
      refine at_bipush C dX3_figure_13 (v := 48) rfl ?_
      refine at_isub C dX3_figure_15 ?_
      exact at_iret C dX3_figure_16 h
def f_X3_figure (x0 : Int32) : Int32 := if x0 < 48 then (if x0 < 97 then (-1) else (if 102 < x0 then (-1) else (x0 - 97) + 10)) else (if 57 < x0 then (if x0 < 97 then (-1) else (if 102 < x0 then (-1) else (x0 - 97) + 10)) else (x0 - 48))
set_option maxRecDepth 100000 in
theorem c_X3_figure (l : Launch) (D : va_G) (E : Nat → ClassId) (a1 a2 : Nat) (x0 : Int32) : Fn l D E a1 a2 yX3_figure wsX3_figure 0 0 [.int x0] ([]) (some (.int (f_X3_figure x0))) ([]) := by
  refine Fn.of (cc := cX3_figure) (maxL := 1) (ret := (some .int)) (own := RX3) (by decide) rfl rfl rfl (Nat.le_of_ble_eq_true rfl) (fun X h1 h2 h3 h4 h5 C hE => ?_)
  subst h1 h2 h3 h4 h5
  refine r_X3_figure_0 C x0 ?_
  refine ⟨fun hc0 => ?_, fun hc0 => ?_⟩
  · simp only [f_X3_figure, if_pos hc0] at hE
    exact hE
  · refine ⟨fun hc1 => ?_, fun hc1 => ?_⟩
    · simp only [f_X3_figure, if_neg hc0, if_pos hc1] at hE
      exact hE
    · simp only [f_X3_figure, if_neg hc0, if_neg hc1] at hE
      exact hE
theorem dX1_isGround_0 : decode cX1_isGround 0 = .ok (.iload_n 0, 1) := by decide +kernel
theorem dX1_isGround_1 : decode cX1_isGround 1 = .ok (.bipush 46, 2) := by decide +kernel
theorem dX1_isGround_3 : decode cX1_isGround 3 = .ok (.if_icmp .eq 9, 3) := by decide +kernel
theorem dX1_isGround_6 : decode cX1_isGround 6 = .ok (.iload_n 0, 1) := by decide +kernel
theorem dX1_isGround_7 : decode cX1_isGround 7 = .ok (.bipush 35, 2) := by decide +kernel
theorem dX1_isGround_9 : decode cX1_isGround 9 = .ok (.if_icmp .ne 7, 3) := by decide +kernel
theorem dX1_isGround_12 : decode cX1_isGround 12 = .ok (.iconst 1, 1) := by decide +kernel
theorem dX1_isGround_13 : decode cX1_isGround 13 = .ok (.goto 4, 3) := by decide +kernel
theorem dX1_isGround_16 : decode cX1_isGround 16 = .ok (.iconst 0, 1) := by decide +kernel
theorem dX1_isGround_17 : decode cX1_isGround 17 = .ok (.ireturn, 1) := by decide +kernel
set_option maxRecDepth 100000 in
theorem r_X1_isGround_0 {X : Bn} (C : Cx X cX1_isGround 1 RX1 wsX1_isGround 0 0) {ws : va_W} (x0 : Int32) (h : Ends X (some .boolean) (some (.int (b2i (if x0 = 46 then true else (if x0 = 35 then true else false))))) (ws)) : At X 1 (ws) 0 [(0, .int x0)] [] := by
  refine at_iload_n C dX1_isGround_0 rfl (j := 0) rfl ?_
  refine at_bipush C dX1_isGround_1 (v := 46) rfl ?_
  have K : At X 1 (ws) 17 [] [.int (b2i (if x0 = 46 then true else (if x0 = 35 then true else false)))] := by
    exact at_zret C dX1_isGround_17 (b2i_nar _) h
  refine at_icmp_eq C dX1_isGround_3 (tgt := 12) (by decide) (fun hc0 => ?_) (fun hc0 => ?_)
  · skip
    refine at_iconst C dX1_isGround_12 (v := 1) rfl ?_
    refine at_goto C dX1_isGround_13 (tgt := 17) (by decide) ?_
    refine at_lv [] rfl ?_
    first | (simp only [if_pos hc0] at K; exact K) | exact K
  · skip
    refine at_iload_n C dX1_isGround_6 rfl (j := 0) rfl ?_
    refine at_bipush C dX1_isGround_7 (v := 35) rfl ?_
    refine at_icmp_ne C dX1_isGround_9 (tgt := 16) (by decide) (fun hc1 => ?_) (fun hc1 => ?_)
    · skip
      refine at_iconst C dX1_isGround_16 (v := 0) rfl ?_
      refine at_lv [] rfl ?_
      first | (simp only [if_neg hc0, if_neg hc1] at K; exact K) | exact K
    · skip
      refine at_iconst C dX1_isGround_12 (v := 1) rfl ?_
      refine at_goto C dX1_isGround_13 (tgt := 17) (by decide) ?_
      refine at_lv [] rfl ?_
      first | (simp only [if_neg hc0, if_pos hc1] at K; exact K) | exact K
def f_X1_isGround (x0 : Int32) : Bool := (if x0 = 46 then true else (if x0 = 35 then true else false))
set_option maxRecDepth 100000 in
theorem c_X1_isGround (l : Launch) (D : va_G) (E : Nat → ClassId) (a1 a2 : Nat) (x0 : Int32) : Fn l D E a1 a2 yX1_isGround wsX1_isGround 0 0 [.int x0] ([]) (some (.int (b2i (f_X1_isGround x0)))) ([]) := by
  refine Fn.of (cc := cX1_isGround) (maxL := 1) (ret := (some .boolean)) (own := RX1) (by decide) rfl rfl rfl (Nat.le_of_ble_eq_true rfl) (fun X h1 h2 h3 h4 h5 C hE => ?_)
  subst h1 h2 h3 h4 h5
  refine r_X1_isGround_0 C x0 ?_
  simp only [f_X1_isGround, b2i_t, b2i_f] at hE
  exact hE
theorem dX6_shifted_0 : decode cX6_shifted 0 = .ok (.lload_n 0, 1) := by decide +kernel
theorem dX6_shifted_1 : decode cX6_shifted 1 = .ok (.ldc2_w 63, 3) := by decide +kernel
theorem dX6_shifted_4 : decode cX6_shifted 4 = .ok (.land, 1) := by decide +kernel
theorem dX6_shifted_5 : decode cX6_shifted 5 = .ok (.iconst 1, 1) := by decide +kernel
theorem dX6_shifted_6 : decode cX6_shifted 6 = .ok (.lushr, 1) := by decide +kernel
theorem dX6_shifted_7 : decode cX6_shifted 7 = .ok (.lload_n 0, 1) := by decide +kernel
theorem dX6_shifted_8 : decode cX6_shifted 8 = .ok (.ldc2_w 65, 3) := by decide +kernel
theorem dX6_shifted_11 : decode cX6_shifted 11 = .ok (.land, 1) := by decide +kernel
theorem dX6_shifted_12 : decode cX6_shifted 12 = .ok (.iconst 1, 1) := by decide +kernel
theorem dX6_shifted_13 : decode cX6_shifted 13 = .ok (.lshl, 1) := by decide +kernel
theorem dX6_shifted_14 : decode cX6_shifted 14 = .ok (.lor, 1) := by decide +kernel
theorem dX6_shifted_15 : decode cX6_shifted 15 = .ok (.lstore_n 2, 1) := by decide +kernel
theorem dX6_shifted_16 : decode cX6_shifted 16 = .ok (.lload_n 0, 1) := by decide +kernel
theorem dX6_shifted_17 : decode cX6_shifted 17 = .ok (.bipush 8, 2) := by decide +kernel
theorem dX6_shifted_19 : decode cX6_shifted 19 = .ok (.lushr, 1) := by decide +kernel
theorem dX6_shifted_20 : decode cX6_shifted 20 = .ok (.lload_n 0, 1) := by decide +kernel
theorem dX6_shifted_21 : decode cX6_shifted 21 = .ok (.bipush 8, 2) := by decide +kernel
theorem dX6_shifted_23 : decode cX6_shifted 23 = .ok (.lshl, 1) := by decide +kernel
theorem dX6_shifted_24 : decode cX6_shifted 24 = .ok (.lor, 1) := by decide +kernel
theorem dX6_shifted_25 : decode cX6_shifted 25 = .ok (.lload_n 2, 1) := by decide +kernel
theorem dX6_shifted_26 : decode cX6_shifted 26 = .ok (.lor, 1) := by decide +kernel
theorem dX6_shifted_27 : decode cX6_shifted 27 = .ok (.lreturn, 1) := by decide +kernel
theorem lk_X6_shifted_0 : Cond.constantLong RX6 63 (-72340172838076674) ∈ wsX6_shifted := by decide +kernel
theorem lk_X6_shifted_1 : Cond.constantLong RX6 65 9187201950435737471 ∈ wsX6_shifted := by decide +kernel
set_option maxRecDepth 100000 in
theorem r_X6_shifted_0 {X : Bn} (C : Cx X cX6_shifted 4 RX6 wsX6_shifted 0 0) {ws : va_W} (x0 : Int64) (h : Ends X (some .long) (some (.long (((lush x0 8) ||| (lshl x0 8)) ||| ((lush (x0 &&& (-72340172838076674)) 1) ||| (lshl (x0 &&& 9187201950435737471) 1))))) (ws)) : At X 4 (ws) 0 [(0, .long x0)] [] := by
  refine at_lload_n C dX6_shifted_0 rfl (j := 0) rfl ?_
  refine at_ldc2 C lk_X6_shifted_0 dX6_shifted_1 ?_
  refine at_land C dX6_shifted_4 ?_
  refine at_iconst C dX6_shifted_5 (v := 1) rfl ?_
  refine at_lushr C dX6_shifted_6 ?_
  refine at_lload_n C dX6_shifted_7 rfl (j := 0) rfl ?_
  refine at_ldc2 C lk_X6_shifted_1 dX6_shifted_8 ?_
  refine at_land C dX6_shifted_11 ?_
  refine at_iconst C dX6_shifted_12 (v := 1) rfl ?_
  refine at_lshl C dX6_shifted_13 ?_
  refine at_lor C dX6_shifted_14 ?_
  refine at_lstore_n C dX6_shifted_15 rfl (by decide) (lv' := [(2, .long ((lush (x0 &&& (-72340172838076674)) 1) ||| (lshl (x0 &&& 9187201950435737471) 1))), (0, .long x0)]) rfl ?_
  refine at_lload_n C dX6_shifted_16 rfl (j := 1) rfl ?_
  refine at_bipush C dX6_shifted_17 (v := 8) rfl ?_
  refine at_lushr C dX6_shifted_19 ?_
  refine at_lload_n C dX6_shifted_20 rfl (j := 1) rfl ?_
  refine at_bipush C dX6_shifted_21 (v := 8) rfl ?_
  refine at_lshl C dX6_shifted_23 ?_
  refine at_lor C dX6_shifted_24 ?_
  refine at_lload_n C dX6_shifted_25 rfl (j := 0) rfl ?_
  refine at_lor C dX6_shifted_26 ?_
  exact at_lret C dX6_shifted_27 h
def f_X6_shifted (x0 : Int64) : Int64 := ((lush x0 8) ||| (lshl x0 8)) ||| ((lush (x0 &&& (-72340172838076674)) 1) ||| (lshl (x0 &&& 9187201950435737471) 1))
set_option maxRecDepth 100000 in
theorem c_X6_shifted (l : Launch) (D : va_G) (E : Nat → ClassId) (a1 a2 : Nat) (x0 : Int64) : Fn l D E a1 a2 yX6_shifted wsX6_shifted 0 0 [.long x0] ([]) (some (.long (f_X6_shifted x0))) ([]) := by
  refine Fn.of (cc := cX6_shifted) (maxL := 4) (ret := (some .long)) (own := RX6) (by decide) rfl rfl rfl (Nat.le_of_ble_eq_true rfl) (fun X h1 h2 h3 h4 h5 C hE => ?_)
  subst h1 h2 h3 h4 h5
  refine r_X6_shifted_0 C x0 ?_
  simp only [f_X6_shifted] at hE
  exact hE
theorem dX1_stepsBetween_0 : decode cX1_stepsBetween 0 = .ok (.iload_n 0, 1) := by decide +kernel
theorem dX1_stepsBetween_1 : decode cX1_stepsBetween 1 = .ok (.bipush 8, 2) := by decide +kernel
theorem dX1_stepsBetween_3 : decode cX1_stepsBetween 3 = .ok (.idiv, 1) := by decide +kernel
theorem dX1_stepsBetween_4 : decode cX1_stepsBetween 4 = .ok (.iload_n 1, 1) := by decide +kernel
theorem dX1_stepsBetween_5 : decode cX1_stepsBetween 5 = .ok (.bipush 8, 2) := by decide +kernel
theorem dX1_stepsBetween_7 : decode cX1_stepsBetween 7 = .ok (.idiv, 1) := by decide +kernel
theorem dX1_stepsBetween_8 : decode cX1_stepsBetween 8 = .ok (.isub, 1) := by decide +kernel
theorem dX1_stepsBetween_9 : decode cX1_stepsBetween 9 = .ok (.invokestatic 61, 3) := by decide +kernel
theorem dX1_stepsBetween_12 : decode cX1_stepsBetween 12 = .ok (.iload_n 0, 1) := by decide +kernel
theorem dX1_stepsBetween_13 : decode cX1_stepsBetween 13 = .ok (.bipush 8, 2) := by decide +kernel
theorem dX1_stepsBetween_15 : decode cX1_stepsBetween 15 = .ok (.irem, 1) := by decide +kernel
theorem dX1_stepsBetween_16 : decode cX1_stepsBetween 16 = .ok (.iload_n 1, 1) := by decide +kernel
theorem dX1_stepsBetween_17 : decode cX1_stepsBetween 17 = .ok (.bipush 8, 2) := by decide +kernel
theorem dX1_stepsBetween_19 : decode cX1_stepsBetween 19 = .ok (.irem, 1) := by decide +kernel
theorem dX1_stepsBetween_20 : decode cX1_stepsBetween 20 = .ok (.isub, 1) := by decide +kernel
theorem dX1_stepsBetween_21 : decode cX1_stepsBetween 21 = .ok (.invokestatic 61, 3) := by decide +kernel
theorem dX1_stepsBetween_24 : decode cX1_stepsBetween 24 = .ok (.iadd, 1) := by decide +kernel
theorem dX1_stepsBetween_25 : decode cX1_stepsBetween 25 = .ok (.ireturn, 1) := by decide +kernel
set_option maxRecDepth 100000 in
theorem r_X1_stepsBetween_0 {X : Bn} (C : Cx X cX1_stepsBetween 2 RX1 wsX1_stepsBetween 1 40) {ws : va_W} (x0 : Int32) (x1 : Int32) (h : Ends X (some .int) (some (.int ((iabs ((x0 / 8) - (x1 / 8))) + (iabs ((irm x0 8) - (irm x1 8)))))) (ws)) : At X 2 (ws) 0 [(0, .int x0), (1, .int x1)] [] := by
  refine at_iload_n C dX1_stepsBetween_0 rfl (j := 0) rfl ?_
  refine at_bipush C dX1_stepsBetween_1 (v := 8) rfl ?_
  refine at_idiv C dX1_stepsBetween_3 (by decide) ?_
  refine at_iload_n C dX1_stepsBetween_4 rfl (j := 1) rfl ?_
  refine at_bipush C dX1_stepsBetween_5 (v := 8) rfl ?_
  refine at_idiv C dX1_stepsBetween_7 (by decide) ?_
  refine at_isub C dX1_stepsBetween_8 ?_
  refine at_mabs C (ix := 61) (by decide +kernel) (by decide +kernel) (by decide +kernel) (by decide +kernel) ⟨rfl, rfl⟩ dX1_stepsBetween_9 ?_
  refine at_iload_n C dX1_stepsBetween_12 rfl (j := 0) rfl ?_
  refine at_bipush C dX1_stepsBetween_13 (v := 8) rfl ?_
  refine at_irem C dX1_stepsBetween_15 (by decide) ?_
  refine at_iload_n C dX1_stepsBetween_16 rfl (j := 1) rfl ?_
  refine at_bipush C dX1_stepsBetween_17 (v := 8) rfl ?_
  refine at_irem C dX1_stepsBetween_19 (by decide) ?_
  refine at_isub C dX1_stepsBetween_20 ?_
  refine at_mabs C (ix := 61) (by decide +kernel) (by decide +kernel) (by decide +kernel) (by decide +kernel) ⟨rfl, rfl⟩ dX1_stepsBetween_21 ?_
  refine at_iadd C dX1_stepsBetween_24 ?_
  exact at_iret C dX1_stepsBetween_25 h
def f_X1_stepsBetween (x0 : Int32) (x1 : Int32) : Int32 := (iabs ((x0 / 8) - (x1 / 8))) + (iabs ((irm x0 8) - (irm x1 8)))
set_option maxRecDepth 100000 in
theorem c_X1_stepsBetween (l : Launch) (D : va_G) (E : Nat → ClassId) (a1 a2 : Nat) (x0 : Int32) (x1 : Int32) : Fn l D E a1 a2 yX1_stepsBetween wsX1_stepsBetween 1 40 [.int x0, .int x1] ([]) (some (.int (f_X1_stepsBetween x0 x1))) ([]) := by
  refine Fn.of (cc := cX1_stepsBetween) (maxL := 2) (ret := (some .int)) (own := RX1) (by decide) rfl rfl rfl (Nat.le_of_ble_eq_true rfl) (fun X h1 h2 h3 h4 h5 C hE => ?_)
  subst h1 h2 h3 h4 h5
  refine r_X1_stepsBetween_0 C x0 x1 ?_
  simp only [f_X1_stepsBetween] at hE
  exact hE
theorem dX5_append_0 : decode cX5_append 0 = .ok (.aload_n 0, 1) := by decide +kernel
theorem dX5_append_1 : decode cX5_append 1 = .ok (.getfield 15, 3) := by decide +kernel
theorem dX5_append_4 : decode cX5_append 4 = .ok (.ifCond .lt 15, 3) := by decide +kernel
theorem dX5_append_7 : decode cX5_append 7 = .ok (.aload_n 0, 1) := by decide +kernel
theorem dX5_append_8 : decode cX5_append 8 = .ok (.getfield 15, 3) := by decide +kernel
theorem dX5_append_11 : decode cX5_append 11 = .ok (.aload_n 0, 1) := by decide +kernel
theorem dX5_append_12 : decode cX5_append 12 = .ok (.getfield 9, 3) := by decide +kernel
theorem dX5_append_15 : decode cX5_append 15 = .ok (.arraylength, 1) := by decide +kernel
theorem dX5_append_16 : decode cX5_append 16 = .ok (.if_icmp .lt 5, 3) := by decide +kernel
theorem dX5_append_19 : decode cX5_append 19 = .ok (.iconst 0, 1) := by decide +kernel
theorem dX5_append_20 : decode cX5_append 20 = .ok (.ireturn, 1) := by decide +kernel
theorem dX5_append_21 : decode cX5_append 21 = .ok (.aload_n 0, 1) := by decide +kernel
theorem dX5_append_22 : decode cX5_append 22 = .ok (.getfield 9, 3) := by decide +kernel
theorem dX5_append_25 : decode cX5_append 25 = .ok (.aload_n 0, 1) := by decide +kernel
theorem dX5_append_26 : decode cX5_append 26 = .ok (.getfield 15, 3) := by decide +kernel
theorem dX5_append_29 : decode cX5_append 29 = .ok (.iload_n 1, 1) := by decide +kernel
theorem dX5_append_30 : decode cX5_append 30 = .ok (.iastore, 1) := by decide +kernel
theorem dX5_append_31 : decode cX5_append 31 = .ok (.aload_n 0, 1) := by decide +kernel
theorem dX5_append_32 : decode cX5_append 32 = .ok (.dup, 1) := by decide +kernel
theorem dX5_append_33 : decode cX5_append 33 = .ok (.getfield 15, 3) := by decide +kernel
theorem dX5_append_36 : decode cX5_append 36 = .ok (.iconst 1, 1) := by decide +kernel
theorem dX5_append_37 : decode cX5_append 37 = .ok (.iadd, 1) := by decide +kernel
theorem dX5_append_38 : decode cX5_append 38 = .ok (.putfield 15, 3) := by decide +kernel
theorem dX5_append_41 : decode cX5_append 41 = .ok (.iconst 1, 1) := by decide +kernel
theorem dX5_append_42 : decode cX5_append 42 = .ok (.ireturn, 1) := by decide +kernel
theorem iw_X5_append_X5 : ∀ w ∈ u_ws RX5 TX5 2, w ∈ wsX5_append := by decide +kernel
theorem lk_X5_append_0 : Cond.fieldLink RX5 15 (TX5 1).1 (TX5 1).2.1 (TX5 1).2.2.1 ∈ wsX5_append := by decide +kernel
theorem lk_X5_append_1 : Cond.fieldLink RX5 9 (TX5 0).1 (TX5 0).2.1 (TX5 0).2.2.1 ∈ wsX5_append := by decide +kernel
set_option maxRecDepth 100000 in
theorem r_X5_append_0 {X : Bn} (C : Cx X cX5_append 2 RX5 wsX5_append 0 0) (ad : Nat → Nat) (S : MS) (k : Nat) (hk : k < 2) (x1 : Int32) (h : ((S.1 (2 + k) 0 < 0) → (Ends X (some .boolean) (some (.int 0)) (cW X.E ad S))) ∧ (¬ S.1 (2 + k) 0 < 0 → (((S.1 (2 + k) 0 < (Int32.ofNat (txN k))) → ((vp_in (S.1 (2 + k) 0) (txN k)) ∧ (Ends X (some .boolean) (some (.int 1)) (cW X.E ad (pg (pg S k ((S.1 (2 + k) 0).toNatClampNeg) x1) (2 + k) 0 (((pg S k ((S.1 (2 + k) 0).toNatClampNeg) x1).1 (2 + k) 0) + 1)))))) ∧ (¬ S.1 (2 + k) 0 < (Int32.ofNat (txN k)) → (Ends X (some .boolean) (some (.int 0)) (cW X.E ad S)))))) : At X 2 (cW X.E ad S) 0 [(0, .ref (ad (1 + 2 * k))), (1, .int x1)] [] := by
  refine at_aload_n C dX5_append_0 rfl (j := 0) rfl ?_
  refine at_get C (K := RX5) (T := TX5) (N := 2) (ci := 4) (v := .int (S.1 (2 + k) 0)) iw_X5_append_X5 (1 + 2 * k) (cW_text hk) rfl 1 (by decide) lk_X5_append_0 rfl dX5_append_1 ?_
  refine at_if_lt C dX5_append_4 (tgt := 19) (by decide) (fun hc2 => ?_) (fun hc2 => ?_)
  · replace h := h.1 hc2
    refine at_iconst C dX5_append_19 (v := 0) rfl ?_
    exact at_zret C dX5_append_20 rfl h
  · replace h := h.2 hc2
    refine at_aload_n C dX5_append_7 rfl (j := 0) rfl ?_
    refine at_get C (K := RX5) (T := TX5) (N := 2) (ci := 4) (v := .int (S.1 (2 + k) 0)) iw_X5_append_X5 (1 + 2 * k) (cW_text hk) rfl 1 (by decide) lk_X5_append_0 rfl dX5_append_8 ?_
    refine at_aload_n C dX5_append_11 rfl (j := 0) rfl ?_
    refine at_get C (K := RX5) (T := TX5) (N := 2) (ci := 4) (v := .ref (ad (2 + 2 * k))) iw_X5_append_X5 (1 + 2 * k) (cW_text hk) rfl 0 (by decide) lk_X5_append_1 rfl dX5_append_12 ?_
    refine at_alen C (2 + 2 * k) 0 (cW_bytes hk) rfl (v := (Int32.ofNat (txN k))) rfl dX5_append_15 ?_
    refine at_icmp_lt C dX5_append_16 (tgt := 21) (by decide) (fun hc3 => ?_) (fun hc3 => ?_)
    · replace h := h.1 hc3
      refine at_aload_n C dX5_append_21 rfl (j := 0) rfl ?_
      refine at_get C (K := RX5) (T := TX5) (N := 2) (ci := 4) (v := .ref (ad (2 + 2 * k))) iw_X5_append_X5 (1 + 2 * k) (cW_text hk) rfl 0 (by decide) lk_X5_append_1 rfl dX5_append_22 ?_
      refine at_aload_n C dX5_append_25 rfl (j := 0) rfl ?_
      refine at_get C (K := RX5) (T := TX5) (N := 2) (ci := 4) (v := .int (S.1 (2 + k) 0)) iw_X5_append_X5 (1 + 2 * k) (cW_text hk) rfl 1 (by decide) lk_X5_append_0 rfl dX5_append_26 ?_
      refine at_iload_n C dX5_append_29 rfl (j := 1) rfl ?_
      refine at_iast C (2 + 2 * k) (cW_bytes hk) h.1 (cW_set_bytes hk) dX5_append_30 ?_
      replace h := h.2
      refine at_aload_n C dX5_append_31 rfl (j := 0) rfl ?_
      refine at_dup C dX5_append_32 rfl ?_
      refine at_get C (K := RX5) (T := TX5) (N := 2) (ci := 4) (v := .int ((pg S k ((S.1 (2 + k) 0).toNatClampNeg) x1).1 (2 + k) 0)) iw_X5_append_X5 (1 + 2 * k) (cW_text hk) rfl 1 (by decide) lk_X5_append_0 rfl dX5_append_33 ?_
      refine at_iconst C dX5_append_36 (v := 1) rfl ?_
      refine at_iadd C dX5_append_37 ?_
      refine at_put C (K := RX5) (T := TX5) (N := 2) (ci := 4) (ty := .int) iw_X5_append_X5 tyX5 tyX5_ok nmX5 (1 + 2 * k) (cW_text hk) rfl 1 (by decide) lk_X5_append_0 rfl rfl rfl rfl (Nat.le_of_ble_eq_true rfl) (cW_set_text1 hk) dX5_append_38 ?_
      refine at_iconst C dX5_append_41 (v := 1) rfl ?_
      exact at_zret C dX5_append_42 rfl h
    · replace h := h.2 hc3
      refine at_iconst C dX5_append_19 (v := 0) rfl ?_
      exact at_zret C dX5_append_20 rfl h
def f_X5_append (S : MS) (k : Nat) (x1 : Int32) : Bool := if S.1 (2 + k) 0 < 0 then false else (if S.1 (2 + k) 0 < (Int32.ofNat (txN k)) then true else false)
def s_X5_append (S : MS) (k : Nat) (x1 : Int32) : MS := if S.1 (2 + k) 0 < 0 then S else (if S.1 (2 + k) 0 < (Int32.ofNat (txN k)) then (pg (pg S k ((S.1 (2 + k) 0).toNatClampNeg) x1) (2 + k) 0 (((pg S k ((S.1 (2 + k) 0).toNatClampNeg) x1).1 (2 + k) 0) + 1)) else S)
def p_X5_append (S : MS) (k : Nat) (x1 : Int32) : Prop := ((¬ S.1 (2 + k) 0 < 0) → ((S.1 (2 + k) 0 < (Int32.ofNat (txN k))) → (vp_in (S.1 (2 + k) 0) (txN k))))
set_option maxRecDepth 100000 in
theorem c_X5_append (l : Launch) (D : va_G) (E : Nat → ClassId) (a1 a2 : Nat) (ad : Nat → Nat) (S : MS) (k : Nat) (hk : k < 2) (x1 : Int32) (hp : p_X5_append S k x1) : Fn l D E a1 a2 yX5_append wsX5_append 0 0 [.ref (ad (1 + 2 * k)), .int x1] (cW E ad S) (some (.int (b2i (f_X5_append S k x1)))) (cW E ad (s_X5_append S k x1)) := by
  refine Fn.of (cc := cX5_append) (maxL := 2) (ret := (some .boolean)) (own := RX5) (by decide) rfl rfl (sameC _ _ _ _) (Nat.le_of_ble_eq_true rfl) (fun X h1 h2 h3 h4 h5 C hE => ?_)
  subst h1 h2 h3 h4 h5
  refine r_X5_append_0 C ad S k hk x1 ?_
  refine ⟨fun hc0 => ?_, fun hc0 => ?_⟩
  · simp only [f_X5_append, b2i_t, b2i_f, s_X5_append, if_pos hc0] at hE
    exact hE
  · refine ⟨fun hc1 => ?_, fun hc1 => ?_⟩
    · refine ⟨((hp hc0) hc1), ?_⟩
      simp only [f_X5_append, b2i_t, b2i_f, s_X5_append, if_neg hc0, if_pos hc1] at hE
      exact hE
    · simp only [f_X5_append, b2i_t, b2i_f, s_X5_append, if_neg hc0, if_neg hc1] at hE
      exact hE
theorem dX5_at_0 : decode cX5_at 0 = .ok (.iload_n 1, 1) := by decide +kernel
theorem dX5_at_1 : decode cX5_at 1 = .ok (.ifCond .lt 29, 3) := by decide +kernel
theorem dX5_at_4 : decode cX5_at 4 = .ok (.iload_n 1, 1) := by decide +kernel
theorem dX5_at_5 : decode cX5_at 5 = .ok (.aload_n 0, 1) := by decide +kernel
theorem dX5_at_6 : decode cX5_at 6 = .ok (.getfield 15, 3) := by decide +kernel
theorem dX5_at_9 : decode cX5_at 9 = .ok (.if_icmp .ge 21, 3) := by decide +kernel
theorem dX5_at_12 : decode cX5_at 12 = .ok (.iload_n 1, 1) := by decide +kernel
theorem dX5_at_13 : decode cX5_at 13 = .ok (.aload_n 0, 1) := by decide +kernel
theorem dX5_at_14 : decode cX5_at 14 = .ok (.getfield 9, 3) := by decide +kernel
theorem dX5_at_17 : decode cX5_at 17 = .ok (.arraylength, 1) := by decide +kernel
theorem dX5_at_18 : decode cX5_at 18 = .ok (.if_icmp .ge 12, 3) := by decide +kernel
theorem dX5_at_21 : decode cX5_at 21 = .ok (.aload_n 0, 1) := by decide +kernel
theorem dX5_at_22 : decode cX5_at 22 = .ok (.getfield 9, 3) := by decide +kernel
theorem dX5_at_25 : decode cX5_at 25 = .ok (.iload_n 1, 1) := by decide +kernel
theorem dX5_at_26 : decode cX5_at 26 = .ok (.iaload, 1) := by decide +kernel
theorem dX5_at_27 : decode cX5_at 27 = .ok (.goto 4, 3) := by decide +kernel
theorem dX5_at_30 : decode cX5_at 30 = .ok (.iconst (-1), 1) := by decide +kernel
theorem dX5_at_31 : decode cX5_at 31 = .ok (.ireturn, 1) := by decide +kernel
theorem iw_X5_at_X5 : ∀ w ∈ u_ws RX5 TX5 2, w ∈ wsX5_at := by decide +kernel
theorem lk_X5_at_0 : Cond.fieldLink RX5 15 (TX5 1).1 (TX5 1).2.1 (TX5 1).2.2.1 ∈ wsX5_at := by decide +kernel
theorem lk_X5_at_1 : Cond.fieldLink RX5 9 (TX5 0).1 (TX5 0).2.1 (TX5 0).2.2.1 ∈ wsX5_at := by decide +kernel
set_option maxRecDepth 100000 in
theorem r_X5_at_0 {X : Bn} (C : Cx X cX5_at 2 RX5 wsX5_at 0 0) (ad : Nat → Nat) (S : MS) (k : Nat) (hk : k < 2) (x1 : Int32) (h : (((¬ x1 < 0) → ((¬ S.1 (2 + k) 0 ≤ x1) → ((¬ (Int32.ofNat (txN k)) ≤ x1) → (vp_in x1 (txN k)))))) ∧ (Ends X (some .int) (some (.int (if x1 < 0 then (-1) else (if S.1 (2 + k) 0 ≤ x1 then (-1) else (if (Int32.ofNat (txN k)) ≤ x1 then (-1) else S.1 k x1.toNatClampNeg))))) (cW X.E ad S))) : At X 2 (cW X.E ad S) 0 [(0, .ref (ad (1 + 2 * k))), (1, .int x1)] [] := by
  refine at_iload_n C dX5_at_0 rfl (j := 1) rfl ?_
  have hq := h.1
  replace h := h.2
  have K : At X 2 (cW X.E ad S) 31 [] [.int (if x1 < 0 then (-1) else (if S.1 (2 + k) 0 ≤ x1 then (-1) else (if (Int32.ofNat (txN k)) ≤ x1 then (-1) else S.1 k x1.toNatClampNeg)))] := by
    exact at_iret C dX5_at_31 h
  replace h := hq
  refine at_if_lt C dX5_at_1 (tgt := 30) (by decide) (fun hc0 => ?_) (fun hc0 => ?_)
  · skip
    refine at_iconst C dX5_at_30 (v := (-1)) rfl ?_
    refine at_lv [] rfl ?_
    first | (simp only [if_pos hc0] at K; exact K) | exact K
  · replace h := h hc0
    refine at_iload_n C dX5_at_4 rfl (j := 1) rfl ?_
    refine at_aload_n C dX5_at_5 rfl (j := 0) rfl ?_
    refine at_get C (K := RX5) (T := TX5) (N := 2) (ci := 4) (v := .int (S.1 (2 + k) 0)) iw_X5_at_X5 (1 + 2 * k) (cW_text hk) rfl 1 (by decide) lk_X5_at_0 rfl dX5_at_6 ?_
    refine at_icmp_ge C dX5_at_9 (tgt := 30) (by decide) (fun hc1 => ?_) (fun hc1 => ?_)
    · skip
      refine at_iconst C dX5_at_30 (v := (-1)) rfl ?_
      refine at_lv [] rfl ?_
      first | (simp only [if_neg hc0, if_pos hc1] at K; exact K) | exact K
    · replace h := h hc1
      refine at_iload_n C dX5_at_12 rfl (j := 1) rfl ?_
      refine at_aload_n C dX5_at_13 rfl (j := 0) rfl ?_
      refine at_get C (K := RX5) (T := TX5) (N := 2) (ci := 4) (v := .ref (ad (2 + 2 * k))) iw_X5_at_X5 (1 + 2 * k) (cW_text hk) rfl 0 (by decide) lk_X5_at_1 rfl dX5_at_14 ?_
      refine at_alen C (2 + 2 * k) 0 (cW_bytes hk) rfl (v := (Int32.ofNat (txN k))) rfl dX5_at_17 ?_
      refine at_icmp_ge C dX5_at_18 (tgt := 30) (by decide) (fun hc2 => ?_) (fun hc2 => ?_)
      · skip
        refine at_iconst C dX5_at_30 (v := (-1)) rfl ?_
        refine at_lv [] rfl ?_
        first | (simp only [if_neg hc0, if_neg hc1, if_pos hc2] at K; exact K) | exact K
      · replace h := h hc2
        refine at_aload_n C dX5_at_21 rfl (j := 0) rfl ?_
        refine at_get C (K := RX5) (T := TX5) (N := 2) (ci := 4) (v := .ref (ad (2 + 2 * k))) iw_X5_at_X5 (1 + 2 * k) (cW_text hk) rfl 0 (by decide) lk_X5_at_1 rfl dX5_at_22 ?_
        refine at_iload_n C dX5_at_25 rfl (j := 1) rfl ?_
        refine at_iald C (2 + 2 * k) (cW_bytes hk) h dX5_at_26 ?_
        refine at_goto C dX5_at_27 (tgt := 31) (by decide) ?_
        refine at_lv [] rfl ?_
        first | (simp only [if_neg hc0, if_neg hc1, if_neg hc2] at K; exact K) | exact K
def f_X5_at (S : MS) (k : Nat) (x1 : Int32) : Int32 := (if x1 < 0 then (-1) else (if S.1 (2 + k) 0 ≤ x1 then (-1) else (if (Int32.ofNat (txN k)) ≤ x1 then (-1) else S.1 k x1.toNatClampNeg)))
def p_X5_at (S : MS) (k : Nat) (x1 : Int32) : Prop := (((¬ x1 < 0) → ((¬ S.1 (2 + k) 0 ≤ x1) → ((¬ (Int32.ofNat (txN k)) ≤ x1) → (vp_in x1 (txN k))))))
set_option maxRecDepth 100000 in
theorem c_X5_at (l : Launch) (D : va_G) (E : Nat → ClassId) (a1 a2 : Nat) (ad : Nat → Nat) (S : MS) (k : Nat) (hk : k < 2) (x1 : Int32) (hp : p_X5_at S k x1) : Fn l D E a1 a2 yX5_at wsX5_at 0 0 [.ref (ad (1 + 2 * k)), .int x1] (cW E ad S) (some (.int (f_X5_at S k x1))) (cW E ad S) := by
  refine Fn.of (cc := cX5_at) (maxL := 2) (ret := (some .int)) (own := RX5) (by decide) rfl rfl rfl (Nat.le_of_ble_eq_true rfl) (fun X h1 h2 h3 h4 h5 C hE => ?_)
  subst h1 h2 h3 h4 h5
  refine r_X5_at_0 C ad S k hk x1 ?_
  refine ⟨hp, ?_⟩
  simp only [f_X5_at] at hE
  exact hE
theorem dX3_rowsOf_0 : decode cX3_rowsOf 0 = .ok (.iload_n 1, 1) := by decide +kernel
theorem dX3_rowsOf_1 : decode cX3_rowsOf 1 = .ok (.iconst 4, 1) := by decide +kernel
theorem dX3_rowsOf_2 : decode cX3_rowsOf 2 = .ok (.imul, 1) := by decide +kernel
theorem dX3_rowsOf_3 : decode cX3_rowsOf 3 = .ok (.iload_n 2, 1) := by decide +kernel
theorem dX3_rowsOf_4 : decode cX3_rowsOf 4 = .ok (.iadd, 1) := by decide +kernel
theorem dX3_rowsOf_5 : decode cX3_rowsOf 5 = .ok (.istore_n 3, 1) := by decide +kernel
theorem dX3_rowsOf_6 : decode cX3_rowsOf 6 = .ok (.iload_n 3, 1) := by decide +kernel
theorem dX3_rowsOf_7 : decode cX3_rowsOf 7 = .ok (.ifCond .lt 21, 3) := by decide +kernel
theorem dX3_rowsOf_10 : decode cX3_rowsOf 10 = .ok (.iload_n 3, 1) := by decide +kernel
theorem dX3_rowsOf_11 : decode cX3_rowsOf 11 = .ok (.aload_n 0, 1) := by decide +kernel
theorem dX3_rowsOf_12 : decode cX3_rowsOf 12 = .ok (.getfield 11, 3) := by decide +kernel
theorem dX3_rowsOf_15 : decode cX3_rowsOf 15 = .ok (.arraylength, 1) := by decide +kernel
theorem dX3_rowsOf_16 : decode cX3_rowsOf 16 = .ok (.if_icmp .ge 12, 3) := by decide +kernel
theorem dX3_rowsOf_19 : decode cX3_rowsOf 19 = .ok (.aload_n 0, 1) := by decide +kernel
theorem dX3_rowsOf_20 : decode cX3_rowsOf 20 = .ok (.getfield 11, 3) := by decide +kernel
theorem dX3_rowsOf_23 : decode cX3_rowsOf 23 = .ok (.iload_n 3, 1) := by decide +kernel
theorem dX3_rowsOf_24 : decode cX3_rowsOf 24 = .ok (.iaload, 1) := by decide +kernel
theorem dX3_rowsOf_25 : decode cX3_rowsOf 25 = .ok (.goto 4, 3) := by decide +kernel
theorem dX3_rowsOf_28 : decode cX3_rowsOf 28 = .ok (.iconst 0, 1) := by decide +kernel
theorem dX3_rowsOf_29 : decode cX3_rowsOf 29 = .ok (.ireturn, 1) := by decide +kernel
theorem iw_X3_rowsOf_X3 : ∀ w ∈ u_ws RX3 TX3 4, w ∈ wsX3_rowsOf := by decide +kernel
theorem lk_X3_rowsOf_0 : Cond.fieldLink RX3 11 (TX3 0).1 (TX3 0).2.1 (TX3 0).2.2.1 ∈ wsX3_rowsOf := by decide +kernel
set_option maxRecDepth 100000 in
theorem r_X3_rowsOf_0 {X : Bn} (C : Cx X cX3_rowsOf 4 RX3 wsX3_rowsOf 0 0) (ad : Nat → Nat) (S : MS) (x1 : Int32) (x2 : Int32) (h : (((¬ (x1 * 4) + x2 < 0) → ((¬ 32 ≤ (x1 * 4) + x2) → (vp_in ((x1 * 4) + x2) 32)))) ∧ (Ends X (some .int) (some (.int (if (x1 * 4) + x2 < 0 then 0 else (if 32 ≤ (x1 * 4) + x2 then 0 else S.1 4 (((x1 * 4) + x2).toNatClampNeg))))) (cW X.E ad S))) : At X 4 (cW X.E ad S) 0 [(0, .ref (ad 5)), (1, .int x1), (2, .int x2)] [] := by
  refine at_iload_n C dX3_rowsOf_0 rfl (j := 1) rfl ?_
  refine at_iconst C dX3_rowsOf_1 (v := 4) rfl ?_
  refine at_imul C dX3_rowsOf_2 ?_
  refine at_iload_n C dX3_rowsOf_3 rfl (j := 2) rfl ?_
  refine at_iadd C dX3_rowsOf_4 ?_
  refine at_istore_n C dX3_rowsOf_5 rfl (by decide) (lv' := [(3, .int ((x1 * 4) + x2)), (0, .ref (ad 5)), (1, .int x1), (2, .int x2)]) rfl ?_
  refine at_iload_n C dX3_rowsOf_6 rfl (j := 0) rfl ?_
  have hq := h.1
  replace h := h.2
  have K : At X 4 (cW X.E ad S) 29 [] [.int (if (x1 * 4) + x2 < 0 then 0 else (if 32 ≤ (x1 * 4) + x2 then 0 else S.1 4 (((x1 * 4) + x2).toNatClampNeg)))] := by
    exact at_iret C dX3_rowsOf_29 h
  replace h := hq
  refine at_if_lt C dX3_rowsOf_7 (tgt := 28) (by decide) (fun hc0 => ?_) (fun hc0 => ?_)
  · skip
    refine at_iconst C dX3_rowsOf_28 (v := 0) rfl ?_
    refine at_lv [] rfl ?_
    first | (simp only [if_pos hc0] at K; exact K) | exact K
  · replace h := h hc0
    refine at_iload_n C dX3_rowsOf_10 rfl (j := 0) rfl ?_
    refine at_aload_n C dX3_rowsOf_11 rfl (j := 1) rfl ?_
    refine at_get C (K := RX3) (T := TX3) (N := 4) (ci := 2) (v := .ref (ad 6)) iw_X3_rowsOf_X3 5 cW_c5 rfl 0 (by decide) lk_X3_rowsOf_0 rfl dX3_rowsOf_12 ?_
    refine at_alen C 6 0 cW_c6 rfl (v := 32) rfl dX3_rowsOf_15 ?_
    refine at_icmp_ge C dX3_rowsOf_16 (tgt := 28) (by decide) (fun hc1 => ?_) (fun hc1 => ?_)
    · skip
      refine at_iconst C dX3_rowsOf_28 (v := 0) rfl ?_
      refine at_lv [] rfl ?_
      first | (simp only [if_neg hc0, if_pos hc1] at K; exact K) | exact K
    · replace h := h hc1
      refine at_aload_n C dX3_rowsOf_19 rfl (j := 1) rfl ?_
      refine at_get C (K := RX3) (T := TX3) (N := 4) (ci := 2) (v := .ref (ad 6)) iw_X3_rowsOf_X3 5 cW_c5 rfl 0 (by decide) lk_X3_rowsOf_0 rfl dX3_rowsOf_20 ?_
      refine at_iload_n C dX3_rowsOf_23 rfl (j := 0) rfl ?_
      refine at_iald C 6 cW_c6 h dX3_rowsOf_24 ?_
      refine at_goto C dX3_rowsOf_25 (tgt := 29) (by decide) ?_
      refine at_lv [] rfl ?_
      first | (simp only [if_neg hc0, if_neg hc1] at K; exact K) | exact K
def f_X3_rowsOf (S : MS) (x1 : Int32) (x2 : Int32) : Int32 := (if (x1 * 4) + x2 < 0 then 0 else (if 32 ≤ (x1 * 4) + x2 then 0 else S.1 4 (((x1 * 4) + x2).toNatClampNeg)))
def p_X3_rowsOf (S : MS) (x1 : Int32) (x2 : Int32) : Prop := (((¬ (x1 * 4) + x2 < 0) → ((¬ 32 ≤ (x1 * 4) + x2) → (vp_in ((x1 * 4) + x2) 32))))
set_option maxRecDepth 100000 in
theorem c_X3_rowsOf (l : Launch) (D : va_G) (E : Nat → ClassId) (a1 a2 : Nat) (ad : Nat → Nat) (S : MS) (x1 : Int32) (x2 : Int32) (hp : p_X3_rowsOf S x1 x2) : Fn l D E a1 a2 yX3_rowsOf wsX3_rowsOf 0 0 [.ref (ad 5), .int x1, .int x2] (cW E ad S) (some (.int (f_X3_rowsOf S x1 x2))) (cW E ad S) := by
  refine Fn.of (cc := cX3_rowsOf) (maxL := 4) (ret := (some .int)) (own := RX3) (by decide) rfl rfl rfl (Nat.le_of_ble_eq_true rfl) (fun X h1 h2 h3 h4 h5 C hE => ?_)
  subst h1 h2 h3 h4 h5
  refine r_X3_rowsOf_0 C ad S x1 x2 ?_
  refine ⟨hp, ?_⟩
  simp only [f_X3_rowsOf] at hE
  exact hE
theorem dX3_sightOf_0 : decode cX3_sightOf 0 = .ok (.iload_n 1, 1) := by decide +kernel
theorem dX3_sightOf_1 : decode cX3_sightOf 1 = .ok (.iconst 4, 1) := by decide +kernel
theorem dX3_sightOf_2 : decode cX3_sightOf 2 = .ok (.imul, 1) := by decide +kernel
theorem dX3_sightOf_3 : decode cX3_sightOf 3 = .ok (.iload_n 2, 1) := by decide +kernel
theorem dX3_sightOf_4 : decode cX3_sightOf 4 = .ok (.iadd, 1) := by decide +kernel
theorem dX3_sightOf_5 : decode cX3_sightOf 5 = .ok (.iconst 4, 1) := by decide +kernel
theorem dX3_sightOf_6 : decode cX3_sightOf 6 = .ok (.imul, 1) := by decide +kernel
theorem dX3_sightOf_7 : decode cX3_sightOf 7 = .ok (.iload_n 3, 1) := by decide +kernel
theorem dX3_sightOf_8 : decode cX3_sightOf 8 = .ok (.iadd, 1) := by decide +kernel
theorem dX3_sightOf_9 : decode cX3_sightOf 9 = .ok (.istore 4, 2) := by decide +kernel
theorem dX3_sightOf_11 : decode cX3_sightOf 11 = .ok (.iload 4, 2) := by decide +kernel
theorem dX3_sightOf_13 : decode cX3_sightOf 13 = .ok (.ifCond .lt 23, 3) := by decide +kernel
theorem dX3_sightOf_16 : decode cX3_sightOf 16 = .ok (.iload 4, 2) := by decide +kernel
theorem dX3_sightOf_18 : decode cX3_sightOf 18 = .ok (.aload_n 0, 1) := by decide +kernel
theorem dX3_sightOf_19 : decode cX3_sightOf 19 = .ok (.getfield 15, 3) := by decide +kernel
theorem dX3_sightOf_22 : decode cX3_sightOf 22 = .ok (.arraylength, 1) := by decide +kernel
theorem dX3_sightOf_23 : decode cX3_sightOf 23 = .ok (.if_icmp .ge 13, 3) := by decide +kernel
theorem dX3_sightOf_26 : decode cX3_sightOf 26 = .ok (.aload_n 0, 1) := by decide +kernel
theorem dX3_sightOf_27 : decode cX3_sightOf 27 = .ok (.getfield 15, 3) := by decide +kernel
theorem dX3_sightOf_30 : decode cX3_sightOf 30 = .ok (.iload 4, 2) := by decide +kernel
theorem dX3_sightOf_32 : decode cX3_sightOf 32 = .ok (.iaload, 1) := by decide +kernel
theorem dX3_sightOf_33 : decode cX3_sightOf 33 = .ok (.goto 4, 3) := by decide +kernel
theorem dX3_sightOf_36 : decode cX3_sightOf 36 = .ok (.iconst 0, 1) := by decide +kernel
theorem dX3_sightOf_37 : decode cX3_sightOf 37 = .ok (.ireturn, 1) := by decide +kernel
theorem iw_X3_sightOf_X3 : ∀ w ∈ u_ws RX3 TX3 4, w ∈ wsX3_sightOf := by decide +kernel
theorem lk_X3_sightOf_0 : Cond.fieldLink RX3 15 (TX3 1).1 (TX3 1).2.1 (TX3 1).2.2.1 ∈ wsX3_sightOf := by decide +kernel
set_option maxRecDepth 100000 in
theorem r_X3_sightOf_0 {X : Bn} (C : Cx X cX3_sightOf 5 RX3 wsX3_sightOf 0 0) (ad : Nat → Nat) (S : MS) (x1 : Int32) (x2 : Int32) (x3 : Int32) (h : (((¬ (((x1 * 4) + x2) * 4) + x3 < 0) → ((¬ 128 ≤ (((x1 * 4) + x2) * 4) + x3) → (vp_in ((((x1 * 4) + x2) * 4) + x3) 128)))) ∧ (Ends X (some .int) (some (.int (if (((x1 * 4) + x2) * 4) + x3 < 0 then 0 else (if 128 ≤ (((x1 * 4) + x2) * 4) + x3 then 0 else S.1 5 (((((x1 * 4) + x2) * 4) + x3).toNatClampNeg))))) (cW X.E ad S))) : At X 5 (cW X.E ad S) 0 [(0, .ref (ad 5)), (1, .int x1), (2, .int x2), (3, .int x3)] [] := by
  refine at_iload_n C dX3_sightOf_0 rfl (j := 1) rfl ?_
  refine at_iconst C dX3_sightOf_1 (v := 4) rfl ?_
  refine at_imul C dX3_sightOf_2 ?_
  refine at_iload_n C dX3_sightOf_3 rfl (j := 2) rfl ?_
  refine at_iadd C dX3_sightOf_4 ?_
  refine at_iconst C dX3_sightOf_5 (v := 4) rfl ?_
  refine at_imul C dX3_sightOf_6 ?_
  refine at_iload_n C dX3_sightOf_7 rfl (j := 3) rfl ?_
  refine at_iadd C dX3_sightOf_8 ?_
  refine at_istore C dX3_sightOf_9 (by decide) (lv' := [(4, .int ((((x1 * 4) + x2) * 4) + x3)), (0, .ref (ad 5)), (1, .int x1), (2, .int x2), (3, .int x3)]) rfl ?_
  refine at_iload C dX3_sightOf_11 (j := 0) rfl ?_
  have hq := h.1
  replace h := h.2
  have K : At X 5 (cW X.E ad S) 37 [] [.int (if (((x1 * 4) + x2) * 4) + x3 < 0 then 0 else (if 128 ≤ (((x1 * 4) + x2) * 4) + x3 then 0 else S.1 5 (((((x1 * 4) + x2) * 4) + x3).toNatClampNeg)))] := by
    exact at_iret C dX3_sightOf_37 h
  replace h := hq
  refine at_if_lt C dX3_sightOf_13 (tgt := 36) (by decide) (fun hc0 => ?_) (fun hc0 => ?_)
  · skip
    refine at_iconst C dX3_sightOf_36 (v := 0) rfl ?_
    refine at_lv [] rfl ?_
    first | (simp only [if_pos hc0] at K; exact K) | exact K
  · replace h := h hc0
    refine at_iload C dX3_sightOf_16 (j := 0) rfl ?_
    refine at_aload_n C dX3_sightOf_18 rfl (j := 1) rfl ?_
    refine at_get C (K := RX3) (T := TX3) (N := 4) (ci := 2) (v := .ref (ad 7)) iw_X3_sightOf_X3 5 cW_c5 rfl 1 (by decide) lk_X3_sightOf_0 rfl dX3_sightOf_19 ?_
    refine at_alen C 7 0 cW_c7 rfl (v := 128) rfl dX3_sightOf_22 ?_
    refine at_icmp_ge C dX3_sightOf_23 (tgt := 36) (by decide) (fun hc1 => ?_) (fun hc1 => ?_)
    · skip
      refine at_iconst C dX3_sightOf_36 (v := 0) rfl ?_
      refine at_lv [] rfl ?_
      first | (simp only [if_neg hc0, if_pos hc1] at K; exact K) | exact K
    · replace h := h hc1
      refine at_aload_n C dX3_sightOf_26 rfl (j := 1) rfl ?_
      refine at_get C (K := RX3) (T := TX3) (N := 4) (ci := 2) (v := .ref (ad 7)) iw_X3_sightOf_X3 5 cW_c5 rfl 1 (by decide) lk_X3_sightOf_0 rfl dX3_sightOf_27 ?_
      refine at_iload C dX3_sightOf_30 (j := 0) rfl ?_
      refine at_iald C 7 cW_c7 h dX3_sightOf_32 ?_
      refine at_goto C dX3_sightOf_33 (tgt := 37) (by decide) ?_
      refine at_lv [] rfl ?_
      first | (simp only [if_neg hc0, if_neg hc1] at K; exact K) | exact K
def f_X3_sightOf (S : MS) (x1 : Int32) (x2 : Int32) (x3 : Int32) : Int32 := (if (((x1 * 4) + x2) * 4) + x3 < 0 then 0 else (if 128 ≤ (((x1 * 4) + x2) * 4) + x3 then 0 else S.1 5 (((((x1 * 4) + x2) * 4) + x3).toNatClampNeg)))
def p_X3_sightOf (S : MS) (x1 : Int32) (x2 : Int32) (x3 : Int32) : Prop := (((¬ (((x1 * 4) + x2) * 4) + x3 < 0) → ((¬ 128 ≤ (((x1 * 4) + x2) * 4) + x3) → (vp_in ((((x1 * 4) + x2) * 4) + x3) 128))))
set_option maxRecDepth 100000 in
theorem c_X3_sightOf (l : Launch) (D : va_G) (E : Nat → ClassId) (a1 a2 : Nat) (ad : Nat → Nat) (S : MS) (x1 : Int32) (x2 : Int32) (x3 : Int32) (hp : p_X3_sightOf S x1 x2 x3) : Fn l D E a1 a2 yX3_sightOf wsX3_sightOf 0 0 [.ref (ad 5), .int x1, .int x2, .int x3] (cW E ad S) (some (.int (f_X3_sightOf S x1 x2 x3))) (cW E ad S) := by
  refine Fn.of (cc := cX3_sightOf) (maxL := 5) (ret := (some .int)) (own := RX3) (by decide) rfl rfl rfl (Nat.le_of_ble_eq_true rfl) (fun X h1 h2 h3 h4 h5 C hE => ?_)
  subst h1 h2 h3 h4 h5
  refine r_X3_sightOf_0 C ad S x1 x2 x3 ?_
  refine ⟨hp, ?_⟩
  simp only [f_X3_sightOf] at hE
  exact hE
set_option maxRecDepth 20000 in
theorem ggX0_mayBe_X7_within : GoodIn wsX0_mayBe wsX7_within := goodIn_r _ [3] (by decide +kernel) (by decide +kernel)
set_option maxRecDepth 20000 in
theorem gX0_mayBe_X7_within_n23 : GoodIn wsX0_mayBe (wsX7_within) := ggX0_mayBe_X7_within
theorem dX0_mayBe_0 : decode cX0_mayBe 0 = .ok (.iload_n 0, 1) := by decide +kernel
theorem dX0_mayBe_1 : decode cX0_mayBe 1 = .ok (.iconst 4, 1) := by decide +kernel
theorem dX0_mayBe_2 : decode cX0_mayBe 2 = .ok (.invokestatic 23, 3) := by decide +kernel
theorem dX0_mayBe_5 : decode cX0_mayBe 5 = .ok (.ifCond .eq 17, 3) := by decide +kernel
theorem dX0_mayBe_8 : decode cX0_mayBe 8 = .ok (.iload_n 1, 1) := by decide +kernel
theorem dX0_mayBe_9 : decode cX0_mayBe 9 = .ok (.sipush 625, 3) := by decide +kernel
theorem dX0_mayBe_12 : decode cX0_mayBe 12 = .ok (.invokestatic 23, 3) := by decide +kernel
theorem dX0_mayBe_15 : decode cX0_mayBe 15 = .ok (.ifCond .eq 7, 3) := by decide +kernel
theorem dX0_mayBe_18 : decode cX0_mayBe 18 = .ok (.iconst 1, 1) := by decide +kernel
theorem dX0_mayBe_19 : decode cX0_mayBe 19 = .ok (.goto 4, 3) := by decide +kernel
theorem dX0_mayBe_22 : decode cX0_mayBe 22 = .ok (.iconst 0, 1) := by decide +kernel
theorem dX0_mayBe_23 : decode cX0_mayBe 23 = .ok (.ireturn, 1) := by decide +kernel
set_option maxRecDepth 100000 in
theorem r_X0_mayBe_0 {X : Bn} (C : Cx X cX0_mayBe 2 RX0 wsX0_mayBe 1 21) {ws : va_W} (x0 : Int32) (x1 : Int32) (h : Ends X (some .boolean) (some (.int (b2i (if (f_X7_within x0 (4 : Int32)) then (if (f_X7_within x1 (625 : Int32)) then true else false) else false)))) (ws)) : At X 2 (ws) 0 [(0, .int x0), (1, .int x1)] [] := by
  refine at_iload_n C dX0_mayBe_0 rfl (j := 0) rfl ?_
  refine at_iconst C dX0_mayBe_1 (v := 4) rfl ?_
  refine at_cN0 C 2 (c_X7_within X.l X.D X.E X.a1 X.a2 x0 (4 : Int32)) ggX0_mayBe_X7_within rfl (host := RX7) (by decide +kernel) (by decide +kernel) (by decide +kernel) (by decide +kernel) ⟨rfl, rfl⟩ rfl rfl rfl dX0_mayBe_2 ?_
  have K : At X 2 (ws) 23 [] [.int (b2i (if (f_X7_within x0 (4 : Int32)) then (if (f_X7_within x1 (625 : Int32)) then true else false) else false))] := by
    exact at_zret C dX0_mayBe_23 (b2i_nar _) h
  refine at_ifB_eq C dX0_mayBe_5 (tgt := 22) (by decide) (fun hc0 => ?_) (fun hc0 => ?_)
  · skip
    refine at_iconst C dX0_mayBe_22 (v := 0) rfl ?_
    refine at_lv [] rfl ?_
    first | (simp only [if_neg (show ¬ (f_X7_within x0 (4 : Int32)) = true by rw [hc0]; decide)] at K; exact K) | exact K
  · skip
    refine at_iload_n C dX0_mayBe_8 rfl (j := 1) rfl ?_
    refine at_sipush C dX0_mayBe_9 (v := 625) rfl ?_
    refine at_cN0 C 2 (c_X7_within X.l X.D X.E X.a1 X.a2 x1 (625 : Int32)) ggX0_mayBe_X7_within rfl (host := RX7) (by decide +kernel) (by decide +kernel) (by decide +kernel) (by decide +kernel) ⟨rfl, rfl⟩ rfl rfl rfl dX0_mayBe_12 ?_
    refine at_ifB_eq C dX0_mayBe_15 (tgt := 22) (by decide) (fun hc1 => ?_) (fun hc1 => ?_)
    · skip
      refine at_iconst C dX0_mayBe_22 (v := 0) rfl ?_
      refine at_lv [] rfl ?_
      first | (simp only [if_pos hc0, if_neg (show ¬ (f_X7_within x1 (625 : Int32)) = true by rw [hc1]; decide)] at K; exact K) | exact K
    · skip
      refine at_iconst C dX0_mayBe_18 (v := 1) rfl ?_
      refine at_goto C dX0_mayBe_19 (tgt := 23) (by decide) ?_
      refine at_lv [] rfl ?_
      first | (simp only [if_pos hc0, if_pos hc1] at K; exact K) | exact K
def f_X0_mayBe (x0 : Int32) (x1 : Int32) : Bool := (if (f_X7_within x0 (4 : Int32)) then (if (f_X7_within x1 (625 : Int32)) then true else false) else false)
set_option maxRecDepth 100000 in
theorem c_X0_mayBe (l : Launch) (D : va_G) (E : Nat → ClassId) (a1 a2 : Nat) (x0 : Int32) (x1 : Int32) : Fn l D E a1 a2 yX0_mayBe wsX0_mayBe 1 21 [.int x0, .int x1] ([]) (some (.int (b2i (f_X0_mayBe x0 x1)))) ([]) := by
  refine Fn.of (cc := cX0_mayBe) (maxL := 2) (ret := (some .boolean)) (own := RX0) (by decide) rfl rfl rfl (Nat.le_of_ble_eq_true rfl) (fun X h1 h2 h3 h4 h5 C hE => ?_)
  subst h1 h2 h3 h4 h5
  refine r_X0_mayBe_0 C x0 x1 ?_
  simp only [f_X0_mayBe, b2i_t, b2i_f] at hE
  exact hE
set_option maxRecDepth 20000 in
theorem ggX0_add_X7_within : GoodIn wsX0_add wsX7_within := goodIn_r _ [6] (by decide +kernel) (by decide +kernel)
set_option maxRecDepth 20000 in
theorem gX0_add_X7_within_n23 : GoodIn wsX0_add (wsX7_within) := ggX0_add_X7_within
theorem dX0_add_0 : decode cX0_add 0 = .ok (.aload_n 0, 1) := by decide +kernel
theorem dX0_add_1 : decode cX0_add 1 = .ok (.getfield 27, 3) := by decide +kernel
theorem dX0_add_4 : decode cX0_add 4 = .ok (.bipush 8, 2) := by decide +kernel
theorem dX0_add_6 : decode cX0_add 6 = .ok (.invokestatic 23, 3) := by decide +kernel
theorem dX0_add_9 : decode cX0_add 9 = .ok (.ifCond .ne 5, 3) := by decide +kernel
theorem dX0_add_12 : decode cX0_add 12 = .ok (.iconst 0, 1) := by decide +kernel
theorem dX0_add_13 : decode cX0_add 13 = .ok (.ireturn, 1) := by decide +kernel
theorem dX0_add_14 : decode cX0_add 14 = .ok (.aload_n 0, 1) := by decide +kernel
theorem dX0_add_15 : decode cX0_add 15 = .ok (.getfield 11, 3) := by decide +kernel
theorem dX0_add_18 : decode cX0_add 18 = .ok (.aload_n 0, 1) := by decide +kernel
theorem dX0_add_19 : decode cX0_add 19 = .ok (.getfield 27, 3) := by decide +kernel
theorem dX0_add_22 : decode cX0_add 22 = .ok (.iload_n 1, 1) := by decide +kernel
theorem dX0_add_23 : decode cX0_add 23 = .ok (.iastore, 1) := by decide +kernel
theorem dX0_add_24 : decode cX0_add 24 = .ok (.aload_n 0, 1) := by decide +kernel
theorem dX0_add_25 : decode cX0_add 25 = .ok (.getfield 15, 3) := by decide +kernel
theorem dX0_add_28 : decode cX0_add 28 = .ok (.aload_n 0, 1) := by decide +kernel
theorem dX0_add_29 : decode cX0_add 29 = .ok (.getfield 27, 3) := by decide +kernel
theorem dX0_add_32 : decode cX0_add 32 = .ok (.iload_n 2, 1) := by decide +kernel
theorem dX0_add_33 : decode cX0_add 33 = .ok (.iastore, 1) := by decide +kernel
theorem dX0_add_34 : decode cX0_add 34 = .ok (.aload_n 0, 1) := by decide +kernel
theorem dX0_add_35 : decode cX0_add 35 = .ok (.dup, 1) := by decide +kernel
theorem dX0_add_36 : decode cX0_add 36 = .ok (.getfield 27, 3) := by decide +kernel
theorem dX0_add_39 : decode cX0_add 39 = .ok (.iconst 1, 1) := by decide +kernel
theorem dX0_add_40 : decode cX0_add 40 = .ok (.iadd, 1) := by decide +kernel
theorem dX0_add_41 : decode cX0_add 41 = .ok (.putfield 27, 3) := by decide +kernel
theorem dX0_add_44 : decode cX0_add 44 = .ok (.iconst 1, 1) := by decide +kernel
theorem dX0_add_45 : decode cX0_add 45 = .ok (.ireturn, 1) := by decide +kernel
theorem iw_X0_add_X0 : ∀ w ∈ u_ws RX0 TX0 4, w ∈ wsX0_add := by decide +kernel
theorem lk_X0_add_0 : Cond.fieldLink RX0 27 (TX0 3).1 (TX0 3).2.1 (TX0 3).2.2.1 ∈ wsX0_add := by decide +kernel
theorem lk_X0_add_1 : Cond.fieldLink RX0 11 (TX0 0).1 (TX0 0).2.1 (TX0 0).2.2.1 ∈ wsX0_add := by decide +kernel
theorem lk_X0_add_2 : Cond.fieldLink RX0 15 (TX0 1).1 (TX0 1).2.1 (TX0 1).2.2.1 ∈ wsX0_add := by decide +kernel
set_option maxRecDepth 100000 in
theorem r_X0_add_0 {X : Bn} (C : Cx X cX0_add 3 RX0 wsX0_add 1 21) (ad : Nat → Nat) (S : MS) (x1 : Int32) (x2 : Int32) (h : (((f_X7_within (S.1 15 0) (8 : Int32)) = true) → ((vp_in (S.1 15 0) 8) ∧ ((vp_in (S.1 15 0) 8) ∧ (Ends X (some .boolean) (some (.int 1)) (cW X.E ad (pg (pg (pg S 12 ((S.1 15 0).toNatClampNeg) x1) 13 ((S.1 15 0).toNatClampNeg) x2) 15 0 ((S.1 15 0) + 1))))))) ∧ ((f_X7_within (S.1 15 0) (8 : Int32)) = false → (Ends X (some .boolean) (some (.int 0)) (cW X.E ad S)))) : At X 3 (cW X.E ad S) 0 [(0, .ref (ad 15)), (1, .int x1), (2, .int x2)] [] := by
  refine at_aload_n C dX0_add_0 rfl (j := 0) rfl ?_
  refine at_get C (K := RX0) (T := TX0) (N := 4) (ci := 0) (v := .int (S.1 15 0)) iw_X0_add_X0 15 cW_c15 rfl 3 (by decide) lk_X0_add_0 rfl dX0_add_1 ?_
  refine at_bipush C dX0_add_4 (v := 8) rfl ?_
  refine at_cN0 C 2 (c_X7_within X.l X.D X.E X.a1 X.a2 (S.1 15 0) (8 : Int32)) ggX0_add_X7_within rfl (host := RX7) (by decide +kernel) (by decide +kernel) (by decide +kernel) (by decide +kernel) ⟨rfl, rfl⟩ rfl rfl rfl dX0_add_6 ?_
  refine at_ifB_ne C dX0_add_9 (tgt := 14) (by decide) (fun hc1 => ?_) (fun hc1 => ?_)
  · replace h := h.1 hc1
    refine at_aload_n C dX0_add_14 rfl (j := 0) rfl ?_
    refine at_get C (K := RX0) (T := TX0) (N := 4) (ci := 0) (v := .ref (ad 16)) iw_X0_add_X0 15 cW_c15 rfl 0 (by decide) lk_X0_add_1 rfl dX0_add_15 ?_
    refine at_aload_n C dX0_add_18 rfl (j := 0) rfl ?_
    refine at_get C (K := RX0) (T := TX0) (N := 4) (ci := 0) (v := .int (S.1 15 0)) iw_X0_add_X0 15 cW_c15 rfl 3 (by decide) lk_X0_add_0 rfl dX0_add_19 ?_
    refine at_iload_n C dX0_add_22 rfl (j := 1) rfl ?_
    refine at_iast C 16 cW_c16 h.1 cW_s16 dX0_add_23 ?_
    replace h := h.2
    refine at_aload_n C dX0_add_24 rfl (j := 0) rfl ?_
    refine at_get C (K := RX0) (T := TX0) (N := 4) (ci := 0) (v := .ref (ad 17)) iw_X0_add_X0 15 cW_c15 rfl 1 (by decide) lk_X0_add_2 rfl dX0_add_25 ?_
    refine at_aload_n C dX0_add_28 rfl (j := 0) rfl ?_
    refine at_get C (K := RX0) (T := TX0) (N := 4) (ci := 0) (v := .int ((pg S 12 ((S.1 15 0).toNatClampNeg) x1).1 15 0)) iw_X0_add_X0 15 cW_c15 rfl 3 (by decide) lk_X0_add_0 rfl dX0_add_29 ?_
    refine at_topI (pg_o (by decide)) ?_
    refine at_iload_n C dX0_add_32 rfl (j := 2) rfl ?_
    refine at_iast C 17 cW_c17 h.1 cW_s17 dX0_add_33 ?_
    replace h := h.2
    refine at_aload_n C dX0_add_34 rfl (j := 0) rfl ?_
    refine at_dup C dX0_add_35 rfl ?_
    refine at_get C (K := RX0) (T := TX0) (N := 4) (ci := 0) (v := .int ((pg (pg S 12 ((S.1 15 0).toNatClampNeg) x1) 13 ((S.1 15 0).toNatClampNeg) x2).1 15 0)) iw_X0_add_X0 15 cW_c15 rfl 3 (by decide) lk_X0_add_0 rfl dX0_add_36 ?_
    refine at_topI ((pg_o (by decide)).trans (pg_o (by decide))) ?_
    refine at_iconst C dX0_add_39 (v := 1) rfl ?_
    refine at_iadd C dX0_add_40 ?_
    refine at_put C (K := RX0) (T := TX0) (N := 4) (ci := 0) (ty := .int) iw_X0_add_X0 tyX0 tyX0_ok nmX0 15 cW_c15 rfl 3 (by decide) lk_X0_add_0 rfl rfl rfl rfl (Nat.le_of_ble_eq_true rfl) cW_f15_3 dX0_add_41 ?_
    refine at_iconst C dX0_add_44 (v := 1) rfl ?_
    exact at_zret C dX0_add_45 rfl h
  · replace h := h.2 hc1
    refine at_iconst C dX0_add_12 (v := 0) rfl ?_
    exact at_zret C dX0_add_13 rfl h
def f_X0_add (S : MS) (x1 : Int32) (x2 : Int32) : Bool := if (f_X7_within (S.1 15 0) (8 : Int32)) then true else false
def s_X0_add (S : MS) (x1 : Int32) (x2 : Int32) : MS := if (f_X7_within (S.1 15 0) (8 : Int32)) then (pg (pg (pg S 12 ((S.1 15 0).toNatClampNeg) x1) 13 ((S.1 15 0).toNatClampNeg) x2) 15 0 ((S.1 15 0) + 1)) else S
def p_X0_add (S : MS) (x1 : Int32) (x2 : Int32) : Prop := (((f_X7_within (S.1 15 0) (8 : Int32)) = true) → (vp_in (S.1 15 0) 8) ∧ (vp_in (S.1 15 0) 8))
set_option maxRecDepth 100000 in
theorem c_X0_add (l : Launch) (D : va_G) (E : Nat → ClassId) (a1 a2 : Nat) (ad : Nat → Nat) (S : MS) (x1 : Int32) (x2 : Int32) (hp : p_X0_add S x1 x2) : Fn l D E a1 a2 yX0_add wsX0_add 1 21 [.ref (ad 15), .int x1, .int x2] (cW E ad S) (some (.int (b2i (f_X0_add S x1 x2)))) (cW E ad (s_X0_add S x1 x2)) := by
  refine Fn.of (cc := cX0_add) (maxL := 3) (ret := (some .boolean)) (own := RX0) (by decide) rfl rfl (sameC _ _ _ _) (Nat.le_of_ble_eq_true rfl) (fun X h1 h2 h3 h4 h5 C hE => ?_)
  subst h1 h2 h3 h4 h5
  refine r_X0_add_0 C ad S x1 x2 ?_
  refine ⟨fun hc0 => ?_, fun hc0 => ?_⟩
  · refine ⟨(hp hc0).1, ?_⟩
    refine ⟨(hp hc0).2, ?_⟩
    simp only [f_X0_add, b2i_t, b2i_f, s_X0_add, if_pos hc0] at hE
    exact hE
  · simp only [f_X0_add, b2i_t, b2i_f, s_X0_add, if_neg (show ¬ (f_X7_within (S.1 15 0) (8 : Int32)) = true by rw [hc0]; decide)] at hE
    exact hE
set_option maxRecDepth 20000 in
theorem ggX1_has_X7_within : GoodIn wsX1_has wsX7_within := goodIn_r _ [3] (by decide +kernel) (by decide +kernel)
set_option maxRecDepth 20000 in
theorem gX1_has_X7_within_n43 : GoodIn wsX1_has (wsX7_within) := ggX1_has_X7_within
theorem dX1_has_0 : decode cX1_has 0 = .ok (.iload_n 2, 1) := by decide +kernel
theorem dX1_has_1 : decode cX1_has 1 = .ok (.bipush 64, 2) := by decide +kernel
theorem dX1_has_3 : decode cX1_has 3 = .ok (.invokestatic 43, 3) := by decide +kernel
theorem dX1_has_6 : decode cX1_has 6 = .ok (.ifCond .eq 17, 3) := by decide +kernel
theorem dX1_has_9 : decode cX1_has 9 = .ok (.lload_n 0, 1) := by decide +kernel
theorem dX1_has_10 : decode cX1_has 10 = .ok (.iload_n 2, 1) := by decide +kernel
theorem dX1_has_11 : decode cX1_has 11 = .ok (.lushr, 1) := by decide +kernel
theorem dX1_has_12 : decode cX1_has 12 = .ok (.lconst 1, 1) := by decide +kernel
theorem dX1_has_13 : decode cX1_has 13 = .ok (.land, 1) := by decide +kernel
theorem dX1_has_14 : decode cX1_has 14 = .ok (.lconst 1, 1) := by decide +kernel
theorem dX1_has_15 : decode cX1_has 15 = .ok (.lcmp, 1) := by decide +kernel
theorem dX1_has_16 : decode cX1_has 16 = .ok (.ifCond .ne 7, 3) := by decide +kernel
theorem dX1_has_19 : decode cX1_has 19 = .ok (.iconst 1, 1) := by decide +kernel
theorem dX1_has_20 : decode cX1_has 20 = .ok (.goto 4, 3) := by decide +kernel
theorem dX1_has_23 : decode cX1_has 23 = .ok (.iconst 0, 1) := by decide +kernel
theorem dX1_has_24 : decode cX1_has 24 = .ok (.ireturn, 1) := by decide +kernel
set_option maxRecDepth 100000 in
theorem r_X1_has_0 {X : Bn} (C : Cx X cX1_has 3 RX1 wsX1_has 1 21) {ws : va_W} (x0 : Int64) (x2 : Int32) (h : Ends X (some .boolean) (some (.int (b2i (if (f_X7_within x2 (64 : Int32)) then (if (lush x0 x2) &&& 1 = 1 then true else false) else false)))) (ws)) : At X 3 (ws) 0 [(0, .long x0), (2, .int x2)] [] := by
  refine at_iload_n C dX1_has_0 rfl (j := 1) rfl ?_
  refine at_bipush C dX1_has_1 (v := 64) rfl ?_
  refine at_cN0 C 2 (c_X7_within X.l X.D X.E X.a1 X.a2 x2 (64 : Int32)) ggX1_has_X7_within rfl (host := RX7) (by decide +kernel) (by decide +kernel) (by decide +kernel) (by decide +kernel) ⟨rfl, rfl⟩ rfl rfl rfl dX1_has_3 ?_
  have K : At X 3 (ws) 24 [] [.int (b2i (if (f_X7_within x2 (64 : Int32)) then (if (lush x0 x2) &&& 1 = 1 then true else false) else false))] := by
    exact at_zret C dX1_has_24 (b2i_nar _) h
  refine at_ifB_eq C dX1_has_6 (tgt := 23) (by decide) (fun hc0 => ?_) (fun hc0 => ?_)
  · skip
    refine at_iconst C dX1_has_23 (v := 0) rfl ?_
    refine at_lv [] rfl ?_
    first | (simp only [if_neg (show ¬ (f_X7_within x2 (64 : Int32)) = true by rw [hc0]; decide)] at K; exact K) | exact K
  · skip
    refine at_lload_n C dX1_has_9 rfl (j := 0) rfl ?_
    refine at_iload_n C dX1_has_10 rfl (j := 1) rfl ?_
    refine at_lushr C dX1_has_11 ?_
    refine at_lconst C dX1_has_12 (v := 1) rfl ?_
    refine at_land C dX1_has_13 ?_
    refine at_lconst C dX1_has_14 (v := 1) rfl ?_
    refine at_lif_ne C dX1_has_15 dX1_has_16 (tgt := 23) (by decide) (fun hc1 => ?_) (fun hc1 => ?_)
    · skip
      refine at_iconst C dX1_has_23 (v := 0) rfl ?_
      refine at_lv [] rfl ?_
      first | (simp only [if_pos hc0, if_neg hc1] at K; exact K) | exact K
    · skip
      refine at_iconst C dX1_has_19 (v := 1) rfl ?_
      refine at_goto C dX1_has_20 (tgt := 24) (by decide) ?_
      refine at_lv [] rfl ?_
      first | (simp only [if_pos hc0, if_pos hc1] at K; exact K) | exact K
def f_X1_has (x0 : Int64) (x2 : Int32) : Bool := (if (f_X7_within x2 (64 : Int32)) then (if (lush x0 x2) &&& 1 = 1 then true else false) else false)
set_option maxRecDepth 100000 in
theorem c_X1_has (l : Launch) (D : va_G) (E : Nat → ClassId) (a1 a2 : Nat) (x0 : Int64) (x2 : Int32) : Fn l D E a1 a2 yX1_has wsX1_has 1 21 [.long x0, .int x2] ([]) (some (.int (b2i (f_X1_has x0 x2)))) ([]) := by
  refine Fn.of (cc := cX1_has) (maxL := 3) (ret := (some .boolean)) (own := RX1) (by decide) rfl rfl rfl (Nat.le_of_ble_eq_true rfl) (fun X h1 h2 h3 h4 h5 C hE => ?_)
  subst h1 h2 h3 h4 h5
  refine r_X1_has_0 C x0 x2 ?_
  simp only [f_X1_has, b2i_t, b2i_f] at hE
  exact hE
set_option maxRecDepth 20000 in
theorem ggX1_isFree_X1_has : GoodIn wsX1_isFree wsX1_has := goodIn_r _ [5, 6, 7, 8] (by decide +kernel) (by decide +kernel)
set_option maxRecDepth 20000 in
theorem gX1_isFree_X1_has : GoodIn wsX1_isFree (va_wsS RX1 47 yX1_has wsX1_has) := goodIn_app (goodIn_of _ (by decide +kernel)) ggX1_isFree_X1_has
theorem dX1_isFree_0 : decode cX1_isFree 0 = .ok (.aload_n 0, 1) := by decide +kernel
theorem dX1_isFree_1 : decode cX1_isFree 1 = .ok (.getfield 33, 3) := by decide +kernel
theorem dX1_isFree_4 : decode cX1_isFree 4 = .ok (.iload_n 1, 1) := by decide +kernel
theorem dX1_isFree_5 : decode cX1_isFree 5 = .ok (.invokestatic 47, 3) := by decide +kernel
theorem dX1_isFree_8 : decode cX1_isFree 8 = .ok (.ireturn, 1) := by decide +kernel
theorem iw_X1_isFree_X1 : ∀ w ∈ u_ws RX1 TX1 6, w ∈ wsX1_isFree := by decide +kernel
theorem lk_X1_isFree_0 : Cond.fieldLink RX1 33 (TX1 1).1 (TX1 1).2.1 (TX1 1).2.2.1 ∈ wsX1_isFree := by decide +kernel
set_option maxRecDepth 100000 in
theorem r_X1_isFree_0 {X : Bn} (C : Cx X cX1_isFree 2 RX1 wsX1_isFree 2 43) (ad : Nat → Nat) (S : MS) (x1 : Int32) (h : Ends X (some .boolean) (some (.int (b2i (f_X1_has (S.2 1 0) x1)))) (cW X.E ad S)) : At X 2 (cW X.E ad S) 0 [(0, .ref (ad 8)), (1, .int x1)] [] := by
  refine at_aload_n C dX1_isFree_0 rfl (j := 0) rfl ?_
  refine at_get C (K := RX1) (T := TX1) (N := 6) (ci := 1) (v := .long (S.2 1 0)) iw_X1_isFree_X1 8 cW_c8 rfl 1 (by decide) lk_X1_isFree_0 rfl dX1_isFree_1 ?_
  refine at_iload_n C dX1_isFree_4 rfl (j := 1) rfl ?_
  refine at_cS0 C 2 (c_X1_has X.l X.D X.E X.a1 X.a2 (S.2 1 0) x1) gX1_isFree_X1_has rfl (by decide +kernel) ⟨rfl, rfl⟩ rfl rfl rfl dX1_isFree_5 ?_
  exact at_zret C dX1_isFree_8 (b2i_nar _) h
def f_X1_isFree (S : MS) (x1 : Int32) : Bool := (f_X1_has (S.2 1 0) x1)
set_option maxRecDepth 100000 in
theorem c_X1_isFree (l : Launch) (D : va_G) (E : Nat → ClassId) (a1 a2 : Nat) (ad : Nat → Nat) (S : MS) (x1 : Int32) : Fn l D E a1 a2 yX1_isFree wsX1_isFree 2 43 [.ref (ad 8), .int x1] (cW E ad S) (some (.int (b2i (f_X1_isFree S x1)))) (cW E ad S) := by
  refine Fn.of (cc := cX1_isFree) (maxL := 2) (ret := (some .boolean)) (own := RX1) (by decide) rfl rfl rfl (Nat.le_of_ble_eq_true rfl) (fun X h1 h2 h3 h4 h5 C hE => ?_)
  subst h1 h2 h3 h4 h5
  refine r_X1_isFree_0 C ad S x1 ?_
  simp only [f_X1_isFree, b2i_t, b2i_f] at hE
  exact hE
set_option maxRecDepth 20000 in
theorem ggX4_hindrance_X7_within : GoodIn wsX4_hindrance wsX7_within := goodIn_r _ [6] (by decide +kernel) (by decide +kernel)
set_option maxRecDepth 20000 in
theorem gX4_hindrance_X7_within_n35 : GoodIn wsX4_hindrance (wsX7_within) := ggX4_hindrance_X7_within
theorem dX4_hindrance_0 : decode cX4_hindrance 0 = .ok (.aload_n 0, 1) := by decide +kernel
theorem dX4_hindrance_1 : decode cX4_hindrance 1 = .ok (.getfield 15, 3) := by decide +kernel
theorem dX4_hindrance_4 : decode cX4_hindrance 4 = .ok (.ifCond .eq 5, 3) := by decide +kernel
theorem dX4_hindrance_7 : decode cX4_hindrance 7 = .ok (.iconst 1, 1) := by decide +kernel
theorem dX4_hindrance_8 : decode cX4_hindrance 8 = .ok (.ireturn, 1) := by decide +kernel
theorem dX4_hindrance_9 : decode cX4_hindrance 9 = .ok (.iload_n 1, 1) := by decide +kernel
theorem dX4_hindrance_10 : decode cX4_hindrance 10 = .ok (.aload_n 0, 1) := by decide +kernel
theorem dX4_hindrance_11 : decode cX4_hindrance 11 = .ok (.getfield 19, 3) := by decide +kernel
theorem dX4_hindrance_14 : decode cX4_hindrance 14 = .ok (.if_icmp .eq 5, 3) := by decide +kernel
theorem dX4_hindrance_17 : decode cX4_hindrance 17 = .ok (.iconst 3, 1) := by decide +kernel
theorem dX4_hindrance_18 : decode cX4_hindrance 18 = .ok (.ireturn, 1) := by decide +kernel
theorem dX4_hindrance_19 : decode cX4_hindrance 19 = .ok (.iload_n 2, 1) := by decide +kernel
theorem dX4_hindrance_20 : decode cX4_hindrance 20 = .ok (.aload_n 0, 1) := by decide +kernel
theorem dX4_hindrance_21 : decode cX4_hindrance 21 = .ok (.getfield 32, 3) := by decide +kernel
theorem dX4_hindrance_24 : decode cX4_hindrance 24 = .ok (.invokestatic 35, 3) := by decide +kernel
theorem dX4_hindrance_27 : decode cX4_hindrance 27 = .ok (.ifCond .eq 7, 3) := by decide +kernel
theorem dX4_hindrance_30 : decode cX4_hindrance 30 = .ok (.iconst 0, 1) := by decide +kernel
theorem dX4_hindrance_31 : decode cX4_hindrance 31 = .ok (.goto 4, 3) := by decide +kernel
theorem dX4_hindrance_34 : decode cX4_hindrance 34 = .ok (.iconst 2, 1) := by decide +kernel
theorem dX4_hindrance_35 : decode cX4_hindrance 35 = .ok (.ireturn, 1) := by decide +kernel
theorem iw_X4_hindrance_X4 : ∀ w ∈ u_ws RX4 TX4 4, w ∈ wsX4_hindrance := by decide +kernel
theorem lk_X4_hindrance_0 : Cond.fieldLink RX4 15 (TX4 3).1 (TX4 3).2.1 (TX4 3).2.2.1 ∈ wsX4_hindrance := by decide +kernel
theorem lk_X4_hindrance_1 : Cond.fieldLink RX4 19 (TX4 1).1 (TX4 1).2.1 (TX4 1).2.2.1 ∈ wsX4_hindrance := by decide +kernel
theorem lk_X4_hindrance_2 : Cond.fieldLink RX4 32 (TX4 2).1 (TX4 2).2.1 (TX4 2).2.2.1 ∈ wsX4_hindrance := by decide +kernel
set_option maxRecDepth 100000 in
theorem r_X4_hindrance_0 {X : Bn} (C : Cx X cX4_hindrance 3 RX4 wsX4_hindrance 1 21) (ad : Nat → Nat) (S : MS) (k : Nat) (hk : k < 4) (x1 : Int32) (x2 : Int32) (h : ((S.1 (32 + k) 0 = 0) → (((x1 = S.1 (24 + k) 0) → (Ends X (some .int) (some (.int (if (f_X7_within x2 (S.1 (28 + k) 0)) then 0 else 2))) (cW X.E ad S))) ∧ (¬ x1 = S.1 (24 + k) 0 → (Ends X (some .int) (some (.int 3)) (cW X.E ad S))))) ∧ (¬ S.1 (32 + k) 0 = 0 → (Ends X (some .int) (some (.int 1)) (cW X.E ad S)))) : At X 3 (cW X.E ad S) 0 [(0, .ref (ad (20 + 2 * k))), (1, .int x1), (2, .int x2)] [] := by
  refine at_aload_n C dX4_hindrance_0 rfl (j := 0) rfl ?_
  refine at_get C (K := RX4) (T := TX4) (N := 4) (ci := 3) (v := .int (S.1 (32 + k) 0)) iw_X4_hindrance_X4 (20 + 2 * k) (cW_sheet hk) rfl 3 (by decide) lk_X4_hindrance_0 rfl dX4_hindrance_1 ?_
  refine at_if_eq C dX4_hindrance_4 (tgt := 9) (by decide) (fun hc2 => ?_) (fun hc2 => ?_)
  · replace h := h.1 hc2
    refine at_iload_n C dX4_hindrance_9 rfl (j := 1) rfl ?_
    refine at_aload_n C dX4_hindrance_10 rfl (j := 0) rfl ?_
    refine at_get C (K := RX4) (T := TX4) (N := 4) (ci := 3) (v := .int (S.1 (24 + k) 0)) iw_X4_hindrance_X4 (20 + 2 * k) (cW_sheet hk) rfl 1 (by decide) lk_X4_hindrance_1 rfl dX4_hindrance_11 ?_
    refine at_icmp_eq C dX4_hindrance_14 (tgt := 19) (by decide) (fun hc3 => ?_) (fun hc3 => ?_)
    · replace h := h.1 hc3
      refine at_iload_n C dX4_hindrance_19 rfl (j := 2) rfl ?_
      refine at_aload_n C dX4_hindrance_20 rfl (j := 0) rfl ?_
      refine at_get C (K := RX4) (T := TX4) (N := 4) (ci := 3) (v := .int (S.1 (28 + k) 0)) iw_X4_hindrance_X4 (20 + 2 * k) (cW_sheet hk) rfl 2 (by decide) lk_X4_hindrance_2 rfl dX4_hindrance_21 ?_
      refine at_cN0 C 2 (c_X7_within X.l X.D X.E X.a1 X.a2 x2 (S.1 (28 + k) 0)) ggX4_hindrance_X7_within rfl (host := RX7) (by decide +kernel) (by decide +kernel) (by decide +kernel) (by decide +kernel) ⟨rfl, rfl⟩ rfl rfl rfl dX4_hindrance_24 ?_
      have K : At X 3 (cW X.E ad S) 35 [] [.int (if (f_X7_within x2 (S.1 (28 + k) 0)) then 0 else 2)] := by
        exact at_iret C dX4_hindrance_35 h
      refine at_ifB_eq C dX4_hindrance_27 (tgt := 34) (by decide) (fun hc4 => ?_) (fun hc4 => ?_)
      · skip
        refine at_iconst C dX4_hindrance_34 (v := 2) rfl ?_
        refine at_lv [] rfl ?_
        first | (simp only [if_neg (show ¬ (f_X7_within x2 (S.1 (28 + k) 0)) = true by rw [hc4]; decide)] at K; exact K) | exact K
      · skip
        refine at_iconst C dX4_hindrance_30 (v := 0) rfl ?_
        refine at_goto C dX4_hindrance_31 (tgt := 35) (by decide) ?_
        refine at_lv [] rfl ?_
        first | (simp only [if_pos hc4] at K; exact K) | exact K
    · replace h := h.2 hc3
      refine at_iconst C dX4_hindrance_17 (v := 3) rfl ?_
      exact at_iret C dX4_hindrance_18 h
  · replace h := h.2 hc2
    refine at_iconst C dX4_hindrance_7 (v := 1) rfl ?_
    exact at_iret C dX4_hindrance_8 h
def f_X4_hindrance (S : MS) (k : Nat) (x1 : Int32) (x2 : Int32) : Int32 := if S.1 (32 + k) 0 = 0 then (if x1 = S.1 (24 + k) 0 then (if (f_X7_within x2 (S.1 (28 + k) 0)) then 0 else 2) else 3) else 1
set_option maxRecDepth 100000 in
theorem c_X4_hindrance (l : Launch) (D : va_G) (E : Nat → ClassId) (a1 a2 : Nat) (ad : Nat → Nat) (S : MS) (k : Nat) (hk : k < 4) (x1 : Int32) (x2 : Int32) : Fn l D E a1 a2 yX4_hindrance wsX4_hindrance 1 21 [.ref (ad (20 + 2 * k)), .int x1, .int x2] (cW E ad S) (some (.int (f_X4_hindrance S k x1 x2))) (cW E ad S) := by
  refine Fn.of (cc := cX4_hindrance) (maxL := 3) (ret := (some .int)) (own := RX4) (by decide) rfl rfl rfl (Nat.le_of_ble_eq_true rfl) (fun X h1 h2 h3 h4 h5 C hE => ?_)
  subst h1 h2 h3 h4 h5
  refine r_X4_hindrance_0 C ad S k hk x1 x2 ?_
  refine ⟨fun hc0 => ?_, fun hc0 => ?_⟩
  · refine ⟨fun hc1 => ?_, fun hc1 => ?_⟩
    · simp only [f_X4_hindrance, if_pos hc0, if_pos hc1] at hE
      exact hE
    · simp only [f_X4_hindrance, if_pos hc0, if_neg hc1] at hE
      exact hE
  · simp only [f_X4_hindrance, if_neg hc0] at hE
    exact hE
theorem dX4_holds_0 : decode cX4_holds 0 = .ok (.iload_n 1, 1) := by decide +kernel
theorem dX4_holds_1 : decode cX4_holds 1 = .ok (.ifCond .lt 29, 3) := by decide +kernel
theorem dX4_holds_4 : decode cX4_holds 4 = .ok (.iload_n 2, 1) := by decide +kernel
theorem dX4_holds_5 : decode cX4_holds 5 = .ok (.ifCond .lt 25, 3) := by decide +kernel
theorem dX4_holds_8 : decode cX4_holds 8 = .ok (.iload_n 1, 1) := by decide +kernel
theorem dX4_holds_9 : decode cX4_holds 9 = .ok (.aload_n 0, 1) := by decide +kernel
theorem dX4_holds_10 : decode cX4_holds 10 = .ok (.getfield 32, 3) := by decide +kernel
theorem dX4_holds_13 : decode cX4_holds 13 = .ok (.if_icmp .gt 17, 3) := by decide +kernel
theorem dX4_holds_16 : decode cX4_holds 16 = .ok (.iload_n 2, 1) := by decide +kernel
theorem dX4_holds_17 : decode cX4_holds 17 = .ok (.aload_n 0, 1) := by decide +kernel
theorem dX4_holds_18 : decode cX4_holds 18 = .ok (.getfield 32, 3) := by decide +kernel
theorem dX4_holds_21 : decode cX4_holds 21 = .ok (.iload_n 1, 1) := by decide +kernel
theorem dX4_holds_22 : decode cX4_holds 22 = .ok (.isub, 1) := by decide +kernel
theorem dX4_holds_23 : decode cX4_holds 23 = .ok (.if_icmp .gt 7, 3) := by decide +kernel
theorem dX4_holds_26 : decode cX4_holds 26 = .ok (.iconst 1, 1) := by decide +kernel
theorem dX4_holds_27 : decode cX4_holds 27 = .ok (.goto 4, 3) := by decide +kernel
theorem dX4_holds_30 : decode cX4_holds 30 = .ok (.iconst 0, 1) := by decide +kernel
theorem dX4_holds_31 : decode cX4_holds 31 = .ok (.ireturn, 1) := by decide +kernel
theorem iw_X4_holds_X4 : ∀ w ∈ u_ws RX4 TX4 4, w ∈ wsX4_holds := by decide +kernel
theorem lk_X4_holds_0 : Cond.fieldLink RX4 32 (TX4 2).1 (TX4 2).2.1 (TX4 2).2.2.1 ∈ wsX4_holds := by decide +kernel
set_option maxRecDepth 100000 in
theorem r_X4_holds_0 {X : Bn} (C : Cx X cX4_holds 3 RX4 wsX4_holds 0 0) (ad : Nat → Nat) (S : MS) (k : Nat) (hk : k < 4) (x1 : Int32) (x2 : Int32) (h : Ends X (some .boolean) (some (.int (b2i (if x1 < 0 then false else (if x2 < 0 then false else (if S.1 (28 + k) 0 < x1 then false else (if (S.1 (28 + k) 0) - x1 < x2 then false else true))))))) (cW X.E ad S)) : At X 3 (cW X.E ad S) 0 [(0, .ref (ad (20 + 2 * k))), (1, .int x1), (2, .int x2)] [] := by
  refine at_iload_n C dX4_holds_0 rfl (j := 1) rfl ?_
  have K : At X 3 (cW X.E ad S) 31 [] [.int (b2i (if x1 < 0 then false else (if x2 < 0 then false else (if S.1 (28 + k) 0 < x1 then false else (if (S.1 (28 + k) 0) - x1 < x2 then false else true)))))] := by
    exact at_zret C dX4_holds_31 (b2i_nar _) h
  refine at_if_lt C dX4_holds_1 (tgt := 30) (by decide) (fun hc0 => ?_) (fun hc0 => ?_)
  · skip
    refine at_iconst C dX4_holds_30 (v := 0) rfl ?_
    refine at_lv [] rfl ?_
    first | (simp only [if_pos hc0] at K; exact K) | exact K
  · skip
    refine at_iload_n C dX4_holds_4 rfl (j := 2) rfl ?_
    refine at_if_lt C dX4_holds_5 (tgt := 30) (by decide) (fun hc1 => ?_) (fun hc1 => ?_)
    · skip
      refine at_iconst C dX4_holds_30 (v := 0) rfl ?_
      refine at_lv [] rfl ?_
      first | (simp only [if_neg hc0, if_pos hc1] at K; exact K) | exact K
    · skip
      refine at_iload_n C dX4_holds_8 rfl (j := 1) rfl ?_
      refine at_aload_n C dX4_holds_9 rfl (j := 0) rfl ?_
      refine at_get C (K := RX4) (T := TX4) (N := 4) (ci := 3) (v := .int (S.1 (28 + k) 0)) iw_X4_holds_X4 (20 + 2 * k) (cW_sheet hk) rfl 2 (by decide) lk_X4_holds_0 rfl dX4_holds_10 ?_
      refine at_icmp_gt C dX4_holds_13 (tgt := 30) (by decide) (fun hc2 => ?_) (fun hc2 => ?_)
      · skip
        refine at_iconst C dX4_holds_30 (v := 0) rfl ?_
        refine at_lv [] rfl ?_
        first | (simp only [if_neg hc0, if_neg hc1, if_pos hc2] at K; exact K) | exact K
      · skip
        refine at_iload_n C dX4_holds_16 rfl (j := 2) rfl ?_
        refine at_aload_n C dX4_holds_17 rfl (j := 0) rfl ?_
        refine at_get C (K := RX4) (T := TX4) (N := 4) (ci := 3) (v := .int (S.1 (28 + k) 0)) iw_X4_holds_X4 (20 + 2 * k) (cW_sheet hk) rfl 2 (by decide) lk_X4_holds_0 rfl dX4_holds_18 ?_
        refine at_iload_n C dX4_holds_21 rfl (j := 1) rfl ?_
        refine at_isub C dX4_holds_22 ?_
        refine at_icmp_gt C dX4_holds_23 (tgt := 30) (by decide) (fun hc3 => ?_) (fun hc3 => ?_)
        · skip
          refine at_iconst C dX4_holds_30 (v := 0) rfl ?_
          refine at_lv [] rfl ?_
          first | (simp only [if_neg hc0, if_neg hc1, if_neg hc2, if_pos hc3] at K; exact K) | exact K
        · skip
          refine at_iconst C dX4_holds_26 (v := 1) rfl ?_
          refine at_goto C dX4_holds_27 (tgt := 31) (by decide) ?_
          refine at_lv [] rfl ?_
          first | (simp only [if_neg hc0, if_neg hc1, if_neg hc2, if_neg hc3] at K; exact K) | exact K
def f_X4_holds (S : MS) (k : Nat) (x1 : Int32) (x2 : Int32) : Bool := (if x1 < 0 then false else (if x2 < 0 then false else (if S.1 (28 + k) 0 < x1 then false else (if (S.1 (28 + k) 0) - x1 < x2 then false else true))))
set_option maxRecDepth 100000 in
theorem c_X4_holds (l : Launch) (D : va_G) (E : Nat → ClassId) (a1 a2 : Nat) (ad : Nat → Nat) (S : MS) (k : Nat) (hk : k < 4) (x1 : Int32) (x2 : Int32) : Fn l D E a1 a2 yX4_holds wsX4_holds 0 0 [.ref (ad (20 + 2 * k)), .int x1, .int x2] (cW E ad S) (some (.int (b2i (f_X4_holds S k x1 x2)))) (cW E ad S) := by
  refine Fn.of (cc := cX4_holds) (maxL := 3) (ret := (some .boolean)) (own := RX4) (by decide) rfl rfl rfl (Nat.le_of_ble_eq_true rfl) (fun X h1 h2 h3 h4 h5 C hE => ?_)
  subst h1 h2 h3 h4 h5
  refine r_X4_holds_0 C ad S k hk x1 x2 ?_
  simp only [f_X4_holds, b2i_t, b2i_f] at hE
  exact hE
set_option maxRecDepth 20000 in
theorem ggX4_item_X7_within : GoodIn wsX4_item wsX7_within := goodIn_r _ [5] (by decide +kernel) (by decide +kernel)
set_option maxRecDepth 20000 in
theorem gX4_item_X7_within_n35 : GoodIn wsX4_item (wsX7_within) := ggX4_item_X7_within
theorem dX4_item_0 : decode cX4_item 0 = .ok (.iload_n 1, 1) := by decide +kernel
theorem dX4_item_1 : decode cX4_item 1 = .ok (.aload_n 0, 1) := by decide +kernel
theorem dX4_item_2 : decode cX4_item 2 = .ok (.getfield 32, 3) := by decide +kernel
theorem dX4_item_5 : decode cX4_item 5 = .ok (.invokestatic 35, 3) := by decide +kernel
theorem dX4_item_8 : decode cX4_item 8 = .ok (.ifCond .eq 21, 3) := by decide +kernel
theorem dX4_item_11 : decode cX4_item 11 = .ok (.iload_n 1, 1) := by decide +kernel
theorem dX4_item_12 : decode cX4_item 12 = .ok (.aload_n 0, 1) := by decide +kernel
theorem dX4_item_13 : decode cX4_item 13 = .ok (.getfield 11, 3) := by decide +kernel
theorem dX4_item_16 : decode cX4_item 16 = .ok (.arraylength, 1) := by decide +kernel
theorem dX4_item_17 : decode cX4_item 17 = .ok (.if_icmp .ge 12, 3) := by decide +kernel
theorem dX4_item_20 : decode cX4_item 20 = .ok (.aload_n 0, 1) := by decide +kernel
theorem dX4_item_21 : decode cX4_item 21 = .ok (.getfield 11, 3) := by decide +kernel
theorem dX4_item_24 : decode cX4_item 24 = .ok (.iload_n 1, 1) := by decide +kernel
theorem dX4_item_25 : decode cX4_item 25 = .ok (.iaload, 1) := by decide +kernel
theorem dX4_item_26 : decode cX4_item 26 = .ok (.goto 4, 3) := by decide +kernel
theorem dX4_item_29 : decode cX4_item 29 = .ok (.iconst 0, 1) := by decide +kernel
theorem dX4_item_30 : decode cX4_item 30 = .ok (.ireturn, 1) := by decide +kernel
theorem iw_X4_item_X4 : ∀ w ∈ u_ws RX4 TX4 4, w ∈ wsX4_item := by decide +kernel
theorem lk_X4_item_0 : Cond.fieldLink RX4 32 (TX4 2).1 (TX4 2).2.1 (TX4 2).2.2.1 ∈ wsX4_item := by decide +kernel
theorem lk_X4_item_1 : Cond.fieldLink RX4 11 (TX4 0).1 (TX4 0).2.1 (TX4 0).2.2.1 ∈ wsX4_item := by decide +kernel
set_option maxRecDepth 100000 in
theorem r_X4_item_0 {X : Bn} (C : Cx X cX4_item 2 RX4 wsX4_item 1 21) (ad : Nat → Nat) (S : MS) (k : Nat) (hk : k < 4) (x1 : Int32) (h : ((((f_X7_within x1 (S.1 (28 + k) 0)) = true) → ((¬ 64 ≤ x1) → (vp_in x1 64)))) ∧ (Ends X (some .int) (some (.int (if (f_X7_within x1 (S.1 (28 + k) 0)) then (if 64 ≤ x1 then 0 else S.1 (20 + k) x1.toNatClampNeg) else 0))) (cW X.E ad S))) : At X 2 (cW X.E ad S) 0 [(0, .ref (ad (20 + 2 * k))), (1, .int x1)] [] := by
  refine at_iload_n C dX4_item_0 rfl (j := 1) rfl ?_
  refine at_aload_n C dX4_item_1 rfl (j := 0) rfl ?_
  refine at_get C (K := RX4) (T := TX4) (N := 4) (ci := 3) (v := .int (S.1 (28 + k) 0)) iw_X4_item_X4 (20 + 2 * k) (cW_sheet hk) rfl 2 (by decide) lk_X4_item_0 rfl dX4_item_2 ?_
  refine at_cN0 C 2 (c_X7_within X.l X.D X.E X.a1 X.a2 x1 (S.1 (28 + k) 0)) ggX4_item_X7_within rfl (host := RX7) (by decide +kernel) (by decide +kernel) (by decide +kernel) (by decide +kernel) ⟨rfl, rfl⟩ rfl rfl rfl dX4_item_5 ?_
  have hq := h.1
  replace h := h.2
  have K : At X 2 (cW X.E ad S) 30 [] [.int (if (f_X7_within x1 (S.1 (28 + k) 0)) then (if 64 ≤ x1 then 0 else S.1 (20 + k) x1.toNatClampNeg) else 0)] := by
    exact at_iret C dX4_item_30 h
  replace h := hq
  refine at_ifB_eq C dX4_item_8 (tgt := 29) (by decide) (fun hc0 => ?_) (fun hc0 => ?_)
  · skip
    refine at_iconst C dX4_item_29 (v := 0) rfl ?_
    refine at_lv [] rfl ?_
    first | (simp only [if_neg (show ¬ (f_X7_within x1 (S.1 (28 + k) 0)) = true by rw [hc0]; decide)] at K; exact K) | exact K
  · replace h := h hc0
    refine at_iload_n C dX4_item_11 rfl (j := 1) rfl ?_
    refine at_aload_n C dX4_item_12 rfl (j := 0) rfl ?_
    refine at_get C (K := RX4) (T := TX4) (N := 4) (ci := 3) (v := .ref (ad (21 + 2 * k))) iw_X4_item_X4 (20 + 2 * k) (cW_sheet hk) rfl 0 (by decide) lk_X4_item_1 rfl dX4_item_13 ?_
    refine at_alen C (21 + 2 * k) 0 (cW_items hk) rfl (v := 64) rfl dX4_item_16 ?_
    refine at_icmp_ge C dX4_item_17 (tgt := 29) (by decide) (fun hc1 => ?_) (fun hc1 => ?_)
    · skip
      refine at_iconst C dX4_item_29 (v := 0) rfl ?_
      refine at_lv [] rfl ?_
      first | (simp only [if_pos hc0, if_pos hc1] at K; exact K) | exact K
    · replace h := h hc1
      refine at_aload_n C dX4_item_20 rfl (j := 0) rfl ?_
      refine at_get C (K := RX4) (T := TX4) (N := 4) (ci := 3) (v := .ref (ad (21 + 2 * k))) iw_X4_item_X4 (20 + 2 * k) (cW_sheet hk) rfl 0 (by decide) lk_X4_item_1 rfl dX4_item_21 ?_
      refine at_iload_n C dX4_item_24 rfl (j := 1) rfl ?_
      refine at_iald C (21 + 2 * k) (cW_items hk) h dX4_item_25 ?_
      refine at_goto C dX4_item_26 (tgt := 30) (by decide) ?_
      refine at_lv [] rfl ?_
      first | (simp only [if_pos hc0, if_neg hc1] at K; exact K) | exact K
def f_X4_item (S : MS) (k : Nat) (x1 : Int32) : Int32 := (if (f_X7_within x1 (S.1 (28 + k) 0)) then (if 64 ≤ x1 then 0 else S.1 (20 + k) x1.toNatClampNeg) else 0)
def p_X4_item (S : MS) (k : Nat) (x1 : Int32) : Prop := ((((f_X7_within x1 (S.1 (28 + k) 0)) = true) → ((¬ 64 ≤ x1) → (vp_in x1 64))))
set_option maxRecDepth 100000 in
theorem c_X4_item (l : Launch) (D : va_G) (E : Nat → ClassId) (a1 a2 : Nat) (ad : Nat → Nat) (S : MS) (k : Nat) (hk : k < 4) (x1 : Int32) (hp : p_X4_item S k x1) : Fn l D E a1 a2 yX4_item wsX4_item 1 21 [.ref (ad (20 + 2 * k)), .int x1] (cW E ad S) (some (.int (f_X4_item S k x1))) (cW E ad S) := by
  refine Fn.of (cc := cX4_item) (maxL := 2) (ret := (some .int)) (own := RX4) (by decide) rfl rfl rfl (Nat.le_of_ble_eq_true rfl) (fun X h1 h2 h3 h4 h5 C hE => ?_)
  subst h1 h2 h3 h4 h5
  refine r_X4_item_0 C ad S k hk x1 ?_
  refine ⟨hp, ?_⟩
  simp only [f_X4_item] at hE
  exact hE
set_option maxRecDepth 20000 in
theorem ggX4_put_X7_within : GoodIn wsX4_put wsX7_within := goodIn_r _ [6] (by decide +kernel) (by decide +kernel)
set_option maxRecDepth 20000 in
theorem gX4_put_X7_within_n35 : GoodIn wsX4_put (wsX7_within) := ggX4_put_X7_within
theorem dX4_put_0 : decode cX4_put 0 = .ok (.iload_n 1, 1) := by decide +kernel
theorem dX4_put_1 : decode cX4_put 1 = .ok (.aload_n 0, 1) := by decide +kernel
theorem dX4_put_2 : decode cX4_put 2 = .ok (.getfield 32, 3) := by decide +kernel
theorem dX4_put_5 : decode cX4_put 5 = .ok (.invokestatic 35, 3) := by decide +kernel
theorem dX4_put_8 : decode cX4_put 8 = .ok (.ifCond .eq 12, 3) := by decide +kernel
theorem dX4_put_11 : decode cX4_put 11 = .ok (.iload_n 1, 1) := by decide +kernel
theorem dX4_put_12 : decode cX4_put 12 = .ok (.aload_n 0, 1) := by decide +kernel
theorem dX4_put_13 : decode cX4_put 13 = .ok (.getfield 11, 3) := by decide +kernel
theorem dX4_put_16 : decode cX4_put 16 = .ok (.arraylength, 1) := by decide +kernel
theorem dX4_put_17 : decode cX4_put 17 = .ok (.if_icmp .lt 4, 3) := by decide +kernel
theorem dX4_put_20 : decode cX4_put 20 = .ok (.return_, 1) := by decide +kernel
theorem dX4_put_21 : decode cX4_put 21 = .ok (.aload_n 0, 1) := by decide +kernel
theorem dX4_put_22 : decode cX4_put 22 = .ok (.getfield 19, 3) := by decide +kernel
theorem dX4_put_25 : decode cX4_put 25 = .ok (.lookupswitch 49 #[(0, 27), (1, 38)], 27) := by decide +kernel
theorem dX4_put_52 : decode cX4_put 52 = .ok (.aload_n 0, 1) := by decide +kernel
theorem dX4_put_53 : decode cX4_put 53 = .ok (.getfield 11, 3) := by decide +kernel
theorem dX4_put_56 : decode cX4_put 56 = .ok (.iload_n 1, 1) := by decide +kernel
theorem dX4_put_57 : decode cX4_put 57 = .ok (.iload_n 2, 1) := by decide +kernel
theorem dX4_put_58 : decode cX4_put 58 = .ok (.i2b, 1) := by decide +kernel
theorem dX4_put_59 : decode cX4_put 59 = .ok (.iastore, 1) := by decide +kernel
theorem dX4_put_60 : decode cX4_put 60 = .ok (.goto 21, 3) := by decide +kernel
theorem dX4_put_63 : decode cX4_put 63 = .ok (.aload_n 0, 1) := by decide +kernel
theorem dX4_put_64 : decode cX4_put 64 = .ok (.getfield 11, 3) := by decide +kernel
theorem dX4_put_67 : decode cX4_put 67 = .ok (.iload_n 1, 1) := by decide +kernel
theorem dX4_put_68 : decode cX4_put 68 = .ok (.iload_n 2, 1) := by decide +kernel
theorem dX4_put_69 : decode cX4_put 69 = .ok (.i2s, 1) := by decide +kernel
theorem dX4_put_70 : decode cX4_put 70 = .ok (.iastore, 1) := by decide +kernel
theorem dX4_put_71 : decode cX4_put 71 = .ok (.goto 10, 3) := by decide +kernel
theorem dX4_put_74 : decode cX4_put 74 = .ok (.aload_n 0, 1) := by decide +kernel
theorem dX4_put_75 : decode cX4_put 75 = .ok (.getfield 11, 3) := by decide +kernel
theorem dX4_put_78 : decode cX4_put 78 = .ok (.iload_n 1, 1) := by decide +kernel
theorem dX4_put_79 : decode cX4_put 79 = .ok (.iload_n 2, 1) := by decide +kernel
theorem dX4_put_80 : decode cX4_put 80 = .ok (.iastore, 1) := by decide +kernel
theorem dX4_put_81 : decode cX4_put 81 = .ok (.return_, 1) := by decide +kernel
theorem iw_X4_put_X4 : ∀ w ∈ u_ws RX4 TX4 4, w ∈ wsX4_put := by decide +kernel
theorem lk_X4_put_0 : Cond.fieldLink RX4 32 (TX4 2).1 (TX4 2).2.1 (TX4 2).2.2.1 ∈ wsX4_put := by decide +kernel
theorem lk_X4_put_1 : Cond.fieldLink RX4 11 (TX4 0).1 (TX4 0).2.1 (TX4 0).2.2.1 ∈ wsX4_put := by decide +kernel
theorem lk_X4_put_2 : Cond.fieldLink RX4 19 (TX4 1).1 (TX4 1).2.1 (TX4 1).2.2.1 ∈ wsX4_put := by decide +kernel
set_option maxRecDepth 100000 in
theorem r_X4_put_0 {X : Bn} (C : Cx X cX4_put 3 RX4 wsX4_put 1 21) (ad : Nat → Nat) (S : MS) (k : Nat) (hk : k < 4) (x1 : Int32) (x2 : Int32) (h : (((f_X7_within x1 (S.1 (28 + k) 0)) = true) → (((x1 < 64) → ((S.1 (24 + k) 0 = 0 → ((vp_in x1 64) ∧ (Ends X (none) none (cW X.E ad (pg S (20 + k) x1.toNatClampNeg x2.toInt8.toInt32))))) ∧ (S.1 (24 + k) 0 = 1 → ((vp_in x1 64) ∧ (Ends X (none) none (cW X.E ad (pg S (20 + k) x1.toNatClampNeg x2.toInt16.toInt32))))) ∧ (¬ S.1 (24 + k) 0 = 0 → ¬ S.1 (24 + k) 0 = 1 → ((vp_in x1 64) ∧ (Ends X (none) none (cW X.E ad (pg S (20 + k) x1.toNatClampNeg x2))))))) ∧ (¬ x1 < 64 → (Ends X (none) none (cW X.E ad S))))) ∧ ((f_X7_within x1 (S.1 (28 + k) 0)) = false → (Ends X (none) none (cW X.E ad S)))) : At X 3 (cW X.E ad S) 0 [(0, .ref (ad (20 + 2 * k))), (1, .int x1), (2, .int x2)] [] := by
  refine at_iload_n C dX4_put_0 rfl (j := 1) rfl ?_
  refine at_aload_n C dX4_put_1 rfl (j := 0) rfl ?_
  refine at_get C (K := RX4) (T := TX4) (N := 4) (ci := 3) (v := .int (S.1 (28 + k) 0)) iw_X4_put_X4 (20 + 2 * k) (cW_sheet hk) rfl 2 (by decide) lk_X4_put_0 rfl dX4_put_2 ?_
  refine at_cN0 C 2 (c_X7_within X.l X.D X.E X.a1 X.a2 x1 (S.1 (28 + k) 0)) ggX4_put_X7_within rfl (host := RX7) (by decide +kernel) (by decide +kernel) (by decide +kernel) (by decide +kernel) ⟨rfl, rfl⟩ rfl rfl rfl dX4_put_5 ?_
  refine at_ifB_eq C dX4_put_8 (tgt := 20) (by decide) (fun hc2 => ?_) (fun hc2 => ?_)
  · replace h := h.2 hc2
    exact at_vret C dX4_put_20 h
  · replace h := h.1 hc2
    refine at_iload_n C dX4_put_11 rfl (j := 1) rfl ?_
    refine at_aload_n C dX4_put_12 rfl (j := 0) rfl ?_
    refine at_get C (K := RX4) (T := TX4) (N := 4) (ci := 3) (v := .ref (ad (21 + 2 * k))) iw_X4_put_X4 (20 + 2 * k) (cW_sheet hk) rfl 0 (by decide) lk_X4_put_1 rfl dX4_put_13 ?_
    refine at_alen C (21 + 2 * k) 0 (cW_items hk) rfl (v := 64) rfl dX4_put_16 ?_
    refine at_icmp_lt C dX4_put_17 (tgt := 21) (by decide) (fun hc3 => ?_) (fun hc3 => ?_)
    · replace h := h.1 hc3
      refine at_aload_n C dX4_put_21 rfl (j := 0) rfl ?_
      refine at_get C (K := RX4) (T := TX4) (N := 4) (ci := 3) (v := .int (S.1 (24 + k) 0)) iw_X4_put_X4 (20 + 2 * k) (cW_sheet hk) rfl 1 (by decide) lk_X4_put_2 rfl dX4_put_22 ?_
      by_cases hk0 : S.1 (24 + k) 0 = 0
      · refine at_look C dX4_put_25 rfl (off := 27) (by rw [hk0] <;> rfl) (tgt := 52) (by decide) ?_
        replace h := h.1 hk0
        refine at_aload_n C dX4_put_52 rfl (j := 0) rfl ?_
        refine at_get C (K := RX4) (T := TX4) (N := 4) (ci := 3) (v := .ref (ad (21 + 2 * k))) iw_X4_put_X4 (20 + 2 * k) (cW_sheet hk) rfl 0 (by decide) lk_X4_put_1 rfl dX4_put_53 ?_
        refine at_iload_n C dX4_put_56 rfl (j := 1) rfl ?_
        refine at_iload_n C dX4_put_57 rfl (j := 2) rfl ?_
        refine at_i2b C dX4_put_58 ?_
        refine at_iast C (21 + 2 * k) (cW_items hk) h.1 (cW_set_items hk) dX4_put_59 ?_
        replace h := h.2
        refine at_goto C dX4_put_60 (tgt := 81) (by decide) ?_
        exact at_vret C dX4_put_81 h
      replace h := h.2
      by_cases hk1 : S.1 (24 + k) 0 = 1
      · refine at_look C dX4_put_25 rfl (off := 38) (by rw [hk1] <;> rfl) (tgt := 63) (by decide) ?_
        replace h := h.1 hk1
        refine at_aload_n C dX4_put_63 rfl (j := 0) rfl ?_
        refine at_get C (K := RX4) (T := TX4) (N := 4) (ci := 3) (v := .ref (ad (21 + 2 * k))) iw_X4_put_X4 (20 + 2 * k) (cW_sheet hk) rfl 0 (by decide) lk_X4_put_1 rfl dX4_put_64 ?_
        refine at_iload_n C dX4_put_67 rfl (j := 1) rfl ?_
        refine at_iload_n C dX4_put_68 rfl (j := 2) rfl ?_
        refine at_i2s C dX4_put_69 ?_
        refine at_iast C (21 + 2 * k) (cW_items hk) h.1 (cW_set_items hk) dX4_put_70 ?_
        replace h := h.2
        refine at_goto C dX4_put_71 (tgt := 81) (by decide) ?_
        exact at_vret C dX4_put_81 h
      replace h := h.2
      refine at_look C dX4_put_25 rfl (off := 49) ((lv_osw (a := 0) hk0 rfl).trans ((lv_osw (a := 1) hk1 rfl).trans rfl)) (tgt := 74) (by decide) ?_
      replace h := h hk0 hk1
      refine at_aload_n C dX4_put_74 rfl (j := 0) rfl ?_
      refine at_get C (K := RX4) (T := TX4) (N := 4) (ci := 3) (v := .ref (ad (21 + 2 * k))) iw_X4_put_X4 (20 + 2 * k) (cW_sheet hk) rfl 0 (by decide) lk_X4_put_1 rfl dX4_put_75 ?_
      refine at_iload_n C dX4_put_78 rfl (j := 1) rfl ?_
      refine at_iload_n C dX4_put_79 rfl (j := 2) rfl ?_
      refine at_iast C (21 + 2 * k) (cW_items hk) h.1 (cW_set_items hk) dX4_put_80 ?_
      replace h := h.2
      exact at_vret C dX4_put_81 h
    · replace h := h.2 hc3
      exact at_vret C dX4_put_20 h
def s_X4_put (S : MS) (k : Nat) (x1 : Int32) (x2 : Int32) : MS := if (f_X7_within x1 (S.1 (28 + k) 0)) then (if x1 < 64 then (if S.1 (24 + k) 0 = 0 then (pg S (20 + k) x1.toNatClampNeg x2.toInt8.toInt32) else (if S.1 (24 + k) 0 = 1 then (pg S (20 + k) x1.toNatClampNeg x2.toInt16.toInt32) else (pg S (20 + k) x1.toNatClampNeg x2))) else S) else S
def p_X4_put (S : MS) (k : Nat) (x1 : Int32) (x2 : Int32) : Prop := (((f_X7_within x1 (S.1 (28 + k) 0)) = true) → ((x1 < 64) → ((S.1 (24 + k) 0 = 0 → (vp_in x1 64)) ∧ (S.1 (24 + k) 0 = 1 → (vp_in x1 64)) ∧ (¬ S.1 (24 + k) 0 = 0 → ¬ S.1 (24 + k) 0 = 1 → (vp_in x1 64)))))
set_option maxRecDepth 100000 in
theorem c_X4_put (l : Launch) (D : va_G) (E : Nat → ClassId) (a1 a2 : Nat) (ad : Nat → Nat) (S : MS) (k : Nat) (hk : k < 4) (x1 : Int32) (x2 : Int32) (hp : p_X4_put S k x1 x2) : Fn l D E a1 a2 yX4_put wsX4_put 1 21 [.ref (ad (20 + 2 * k)), .int x1, .int x2] (cW E ad S) none (cW E ad (s_X4_put S k x1 x2)) := by
  refine Fn.of (cc := cX4_put) (maxL := 3) (ret := none) (own := RX4) (by decide) rfl rfl (sameC _ _ _ _) (Nat.le_of_ble_eq_true rfl) (fun X h1 h2 h3 h4 h5 C hE => ?_)
  subst h1 h2 h3 h4 h5
  refine r_X4_put_0 C ad S k hk x1 x2 ?_
  refine ⟨fun hc0 => ?_, fun hc0 => ?_⟩
  · refine ⟨fun hc1 => ?_, fun hc1 => ?_⟩
    · refine ⟨fun hc2_0_0 => ?_, fun hc2_1_0 => ?_, fun hc2_2_0 hc2_2_1 => ?_⟩
      · refine ⟨(((hp hc0) hc1).1 hc2_0_0), ?_⟩
        simp only [s_X4_put, if_pos hc0, if_pos hc1, if_pos hc2_0_0] at hE
        exact hE
      · refine ⟨(((hp hc0) hc1).2.1 hc2_1_0), ?_⟩
        simp only [s_X4_put, if_pos hc0, if_pos hc1, if_neg (show ¬ S.1 (24 + k) 0 = 0 by rw [hc2_1_0]; decide), if_pos hc2_1_0] at hE
        exact hE
      · refine ⟨(((hp hc0) hc1).2.2 hc2_2_0 hc2_2_1), ?_⟩
        simp only [s_X4_put, if_pos hc0, if_pos hc1, if_neg hc2_2_0, if_neg hc2_2_1] at hE
        exact hE
    · simp only [s_X4_put, if_pos hc0, if_neg hc1] at hE
      exact hE
  · simp only [s_X4_put, if_neg (show ¬ (f_X7_within x1 (S.1 (28 + k) 0)) = true by rw [hc0]; decide)] at hE
    exact hE
set_option maxRecDepth 20000 in
theorem ggX6_setOut_X7_within : GoodIn wsX6_setOut wsX7_within := goodIn_r _ [5] (by decide +kernel) (by decide +kernel)
set_option maxRecDepth 20000 in
theorem gX6_setOut_X7_within_n40 : GoodIn wsX6_setOut (wsX7_within) := ggX6_setOut_X7_within
theorem dX6_setOut_0 : decode cX6_setOut 0 = .ok (.iload_n 1, 1) := by decide +kernel
theorem dX6_setOut_1 : decode cX6_setOut 1 = .ok (.iconst 4, 1) := by decide +kernel
theorem dX6_setOut_2 : decode cX6_setOut 2 = .ok (.invokestatic 40, 3) := by decide +kernel
theorem dX6_setOut_5 : decode cX6_setOut 5 = .ok (.ifCond .eq 12, 3) := by decide +kernel
theorem dX6_setOut_8 : decode cX6_setOut 8 = .ok (.iload_n 2, 1) := by decide +kernel
theorem dX6_setOut_9 : decode cX6_setOut 9 = .ok (.bipush 64, 2) := by decide +kernel
theorem dX6_setOut_11 : decode cX6_setOut 11 = .ok (.invokestatic 40, 3) := by decide +kernel
theorem dX6_setOut_14 : decode cX6_setOut 14 = .ok (.ifCond .ne 5, 3) := by decide +kernel
theorem dX6_setOut_17 : decode cX6_setOut 17 = .ok (.iconst 0, 1) := by decide +kernel
theorem dX6_setOut_18 : decode cX6_setOut 18 = .ok (.ireturn, 1) := by decide +kernel
theorem dX6_setOut_19 : decode cX6_setOut 19 = .ok (.aload_n 0, 1) := by decide +kernel
theorem dX6_setOut_20 : decode cX6_setOut 20 = .ok (.getfield 17, 3) := by decide +kernel
theorem dX6_setOut_23 : decode cX6_setOut 23 = .ok (.iload_n 1, 1) := by decide +kernel
theorem dX6_setOut_24 : decode cX6_setOut 24 = .ok (.lconst 1, 1) := by decide +kernel
theorem dX6_setOut_25 : decode cX6_setOut 25 = .ok (.iload_n 2, 1) := by decide +kernel
theorem dX6_setOut_26 : decode cX6_setOut 26 = .ok (.lshl, 1) := by decide +kernel
theorem dX6_setOut_27 : decode cX6_setOut 27 = .ok (.lastore, 1) := by decide +kernel
theorem dX6_setOut_28 : decode cX6_setOut 28 = .ok (.aload_n 0, 1) := by decide +kernel
theorem dX6_setOut_29 : decode cX6_setOut 29 = .ok (.getfield 20, 3) := by decide +kernel
theorem dX6_setOut_32 : decode cX6_setOut 32 = .ok (.iload_n 1, 1) := by decide +kernel
theorem dX6_setOut_33 : decode cX6_setOut 33 = .ok (.lconst 1, 1) := by decide +kernel
theorem dX6_setOut_34 : decode cX6_setOut 34 = .ok (.iload_n 2, 1) := by decide +kernel
theorem dX6_setOut_35 : decode cX6_setOut 35 = .ok (.lshl, 1) := by decide +kernel
theorem dX6_setOut_36 : decode cX6_setOut 36 = .ok (.lastore, 1) := by decide +kernel
theorem dX6_setOut_37 : decode cX6_setOut 37 = .ok (.iconst 1, 1) := by decide +kernel
theorem dX6_setOut_38 : decode cX6_setOut 38 = .ok (.ireturn, 1) := by decide +kernel
theorem iw_X6_setOut_X6 : ∀ w ∈ u_ws RX6 TX6 4, w ∈ wsX6_setOut := by decide +kernel
theorem lk_X6_setOut_0 : Cond.fieldLink RX6 17 (TX6 1).1 (TX6 1).2.1 (TX6 1).2.2.1 ∈ wsX6_setOut := by decide +kernel
theorem lk_X6_setOut_1 : Cond.fieldLink RX6 20 (TX6 2).1 (TX6 2).2.1 (TX6 2).2.2.1 ∈ wsX6_setOut := by decide +kernel
set_option maxRecDepth 100000 in
theorem r_X6_setOut_0 {X : Bn} (C : Cx X cX6_setOut 3 RX6 wsX6_setOut 1 21) (ad : Nat → Nat) (S : MS) (x1 : Int32) (x2 : Int32) (h : (((f_X7_within x1 (4 : Int32)) = true) → ((((f_X7_within x2 (64 : Int32)) = true) → ((vp_in x1 4) ∧ ((vp_in x1 4) ∧ (Ends X (some .boolean) (some (.int 1)) (cW X.E ad (pv (pv S 3 x1.toNatClampNeg (lshl 1 x2)) 4 x1.toNatClampNeg (lshl 1 x2))))))) ∧ ((f_X7_within x2 (64 : Int32)) = false → (Ends X (some .boolean) (some (.int 0)) (cW X.E ad S))))) ∧ ((f_X7_within x1 (4 : Int32)) = false → (Ends X (some .boolean) (some (.int 0)) (cW X.E ad S)))) : At X 3 (cW X.E ad S) 0 [(0, .ref (ad 10)), (1, .int x1), (2, .int x2)] [] := by
  refine at_iload_n C dX6_setOut_0 rfl (j := 1) rfl ?_
  refine at_iconst C dX6_setOut_1 (v := 4) rfl ?_
  refine at_cN0 C 2 (c_X7_within X.l X.D X.E X.a1 X.a2 x1 (4 : Int32)) ggX6_setOut_X7_within rfl (host := RX7) (by decide +kernel) (by decide +kernel) (by decide +kernel) (by decide +kernel) ⟨rfl, rfl⟩ rfl rfl rfl dX6_setOut_2 ?_
  refine at_ifB_eq C dX6_setOut_5 (tgt := 17) (by decide) (fun hc2 => ?_) (fun hc2 => ?_)
  · replace h := h.2 hc2
    refine at_iconst C dX6_setOut_17 (v := 0) rfl ?_
    exact at_zret C dX6_setOut_18 rfl h
  · replace h := h.1 hc2
    refine at_iload_n C dX6_setOut_8 rfl (j := 2) rfl ?_
    refine at_bipush C dX6_setOut_9 (v := 64) rfl ?_
    refine at_cN0 C 2 (c_X7_within X.l X.D X.E X.a1 X.a2 x2 (64 : Int32)) ggX6_setOut_X7_within rfl (host := RX7) (by decide +kernel) (by decide +kernel) (by decide +kernel) (by decide +kernel) ⟨rfl, rfl⟩ rfl rfl rfl dX6_setOut_11 ?_
    refine at_ifB_ne C dX6_setOut_14 (tgt := 19) (by decide) (fun hc3 => ?_) (fun hc3 => ?_)
    · replace h := h.1 hc3
      refine at_aload_n C dX6_setOut_19 rfl (j := 0) rfl ?_
      refine at_get C (K := RX6) (T := TX6) (N := 4) (ci := 5) (v := .ref (ad 12)) iw_X6_setOut_X6 10 cW_c10 rfl 1 (by decide) lk_X6_setOut_0 rfl dX6_setOut_20 ?_
      refine at_iload_n C dX6_setOut_23 rfl (j := 1) rfl ?_
      refine at_lconst C dX6_setOut_24 (v := 1) rfl ?_
      refine at_iload_n C dX6_setOut_25 rfl (j := 2) rfl ?_
      refine at_lshl C dX6_setOut_26 ?_
      refine at_last C 12 cW_c12 h.1 cW_s12 dX6_setOut_27 ?_
      replace h := h.2
      refine at_aload_n C dX6_setOut_28 rfl (j := 0) rfl ?_
      refine at_get C (K := RX6) (T := TX6) (N := 4) (ci := 5) (v := .ref (ad 13)) iw_X6_setOut_X6 10 cW_c10 rfl 2 (by decide) lk_X6_setOut_1 rfl dX6_setOut_29 ?_
      refine at_iload_n C dX6_setOut_32 rfl (j := 1) rfl ?_
      refine at_lconst C dX6_setOut_33 (v := 1) rfl ?_
      refine at_iload_n C dX6_setOut_34 rfl (j := 2) rfl ?_
      refine at_lshl C dX6_setOut_35 ?_
      refine at_last C 13 cW_c13 h.1 cW_s13 dX6_setOut_36 ?_
      replace h := h.2
      refine at_iconst C dX6_setOut_37 (v := 1) rfl ?_
      exact at_zret C dX6_setOut_38 rfl h
    · replace h := h.2 hc3
      refine at_iconst C dX6_setOut_17 (v := 0) rfl ?_
      exact at_zret C dX6_setOut_18 rfl h
def f_X6_setOut (S : MS) (x1 : Int32) (x2 : Int32) : Bool := if (f_X7_within x1 (4 : Int32)) then (if (f_X7_within x2 (64 : Int32)) then true else false) else false
def s_X6_setOut (S : MS) (x1 : Int32) (x2 : Int32) : MS := if (f_X7_within x1 (4 : Int32)) then (if (f_X7_within x2 (64 : Int32)) then (pv (pv S 3 x1.toNatClampNeg (lshl 1 x2)) 4 x1.toNatClampNeg (lshl 1 x2)) else S) else S
def p_X6_setOut (S : MS) (x1 : Int32) (x2 : Int32) : Prop := (((f_X7_within x1 (4 : Int32)) = true) → (((f_X7_within x2 (64 : Int32)) = true) → (vp_in x1 4) ∧ (vp_in x1 4)))
set_option maxRecDepth 100000 in
theorem c_X6_setOut (l : Launch) (D : va_G) (E : Nat → ClassId) (a1 a2 : Nat) (ad : Nat → Nat) (S : MS) (x1 : Int32) (x2 : Int32) (hp : p_X6_setOut S x1 x2) : Fn l D E a1 a2 yX6_setOut wsX6_setOut 1 21 [.ref (ad 10), .int x1, .int x2] (cW E ad S) (some (.int (b2i (f_X6_setOut S x1 x2)))) (cW E ad (s_X6_setOut S x1 x2)) := by
  refine Fn.of (cc := cX6_setOut) (maxL := 3) (ret := (some .boolean)) (own := RX6) (by decide) rfl rfl (sameC _ _ _ _) (Nat.le_of_ble_eq_true rfl) (fun X h1 h2 h3 h4 h5 C hE => ?_)
  subst h1 h2 h3 h4 h5
  refine r_X6_setOut_0 C ad S x1 x2 ?_
  refine ⟨fun hc0 => ?_, fun hc0 => ?_⟩
  · refine ⟨fun hc1 => ?_, fun hc1 => ?_⟩
    · refine ⟨((hp hc0) hc1).1, ?_⟩
      refine ⟨((hp hc0) hc1).2, ?_⟩
      simp only [f_X6_setOut, b2i_t, b2i_f, s_X6_setOut, if_pos hc0, if_pos hc1] at hE
      exact hE
    · simp only [f_X6_setOut, b2i_t, b2i_f, s_X6_setOut, if_pos hc0, if_neg (show ¬ (f_X7_within x2 (64 : Int32)) = true by rw [hc1]; decide)] at hE
      exact hE
  · simp only [f_X6_setOut, b2i_t, b2i_f, s_X6_setOut, if_neg (show ¬ (f_X7_within x1 (4 : Int32)) = true by rw [hc0]; decide)] at hE
    exact hE
set_option maxRecDepth 20000 in
theorem ggX7_isShape_X7_within : GoodIn wsX7_isShape wsX7_within := goodIn_r _ [6] (by decide +kernel) (by decide +kernel)
set_option maxRecDepth 20000 in
theorem gX7_isShape_X7_within : GoodIn wsX7_isShape (va_wsS RX7 64 yX7_within wsX7_within) := goodIn_app (goodIn_of _ (by decide +kernel)) ggX7_isShape_X7_within
theorem dX7_isShape_0 : decode cX7_isShape 0 = .ok (.iload_n 1, 1) := by decide +kernel
theorem dX7_isShape_1 : decode cX7_isShape 1 = .ok (.aload_n 0, 1) := by decide +kernel
theorem dX7_isShape_2 : decode cX7_isShape 2 = .ok (.getfield 24, 3) := by decide +kernel
theorem dX7_isShape_5 : decode cX7_isShape 5 = .ok (.getfield 261, 3) := by decide +kernel
theorem dX7_isShape_8 : decode cX7_isShape 8 = .ok (.invokestatic 64, 3) := by decide +kernel
theorem dX7_isShape_11 : decode cX7_isShape 11 = .ok (.ireturn, 1) := by decide +kernel
theorem iw_X7_isShape_X3 : ∀ w ∈ u_ws RX3 TX3 4, w ∈ wsX7_isShape := by decide +kernel
theorem iw_X7_isShape_X7 : ∀ w ∈ u_ws RX7 TX7 8, w ∈ wsX7_isShape := by decide +kernel
theorem lk_X7_isShape_0 : Cond.fieldLink RX7 24 (TX7 2).1 (TX7 2).2.1 (TX7 2).2.2.1 ∈ wsX7_isShape := by decide +kernel
theorem lk_X7_isShape_1 : Cond.fieldLink RX7 261 (TX3 2).1 (TX3 2).2.1 (TX3 2).2.2.1 ∈ wsX7_isShape := by decide +kernel
set_option maxRecDepth 100000 in
theorem r_X7_isShape_0 {X : Bn} (C : Cx X cX7_isShape 2 RX7 wsX7_isShape 1 21) (ad : Nat → Nat) (S : MS) (x1 : Int32) (h : Ends X (some .boolean) (some (.int (b2i (f_X7_within x1 (S.1 6 0))))) (cW X.E ad S)) : At X 2 (cW X.E ad S) 0 [(0, .ref (ad 0)), (1, .int x1)] [] := by
  refine at_iload_n C dX7_isShape_0 rfl (j := 1) rfl ?_
  refine at_aload_n C dX7_isShape_1 rfl (j := 0) rfl ?_
  refine at_get C (K := RX7) (T := TX7) (N := 8) (ci := 6) (v := .ref (ad 5)) iw_X7_isShape_X7 0 cW_c0 rfl 2 (by decide) lk_X7_isShape_0 rfl dX7_isShape_2 ?_
  refine at_get C (K := RX3) (T := TX3) (N := 4) (ci := 2) (v := .int (S.1 6 0)) iw_X7_isShape_X3 5 cW_c5 rfl 2 (by decide) lk_X7_isShape_1 rfl dX7_isShape_5 ?_
  refine at_cS0 C 2 (c_X7_within X.l X.D X.E X.a1 X.a2 x1 (S.1 6 0)) gX7_isShape_X7_within rfl (by decide +kernel) ⟨rfl, rfl⟩ rfl rfl rfl dX7_isShape_8 ?_
  exact at_zret C dX7_isShape_11 (b2i_nar _) h
def f_X7_isShape (S : MS) (x1 : Int32) : Bool := (f_X7_within x1 (S.1 6 0))
set_option maxRecDepth 100000 in
theorem c_X7_isShape (l : Launch) (D : va_G) (E : Nat → ClassId) (a1 a2 : Nat) (ad : Nat → Nat) (S : MS) (x1 : Int32) : Fn l D E a1 a2 yX7_isShape wsX7_isShape 1 21 [.ref (ad 0), .int x1] (cW E ad S) (some (.int (b2i (f_X7_isShape S x1)))) (cW E ad S) := by
  refine Fn.of (cc := cX7_isShape) (maxL := 2) (ret := (some .boolean)) (own := RX7) (by decide) rfl rfl rfl (Nat.le_of_ble_eq_true rfl) (fun X h1 h2 h3 h4 h5 C hE => ?_)
  subst h1 h2 h3 h4 h5
  refine r_X7_isShape_0 C ad S x1 ?_
  simp only [f_X7_isShape, b2i_t, b2i_f] at hE
  exact hE
set_option maxRecDepth 20000 in
theorem ggX7_isTurnedShape_X7_isShape : GoodIn wsX7_isTurnedShape wsX7_isShape := goodIn_r _ [5, 6, 7, 8, 9, 4, 10, 11, 12, 13, 14, 15, 16, 17, 18, 19, 20, 21, 22] (by decide +kernel) (by decide +kernel)
set_option maxRecDepth 20000 in
theorem gX7_isTurnedShape_X7_isShape : GoodIn wsX7_isTurnedShape (wsV RX7 106 RX7 yX7_isShape wsX7_isShape) := goodIn_app (goodIn_of _ (by decide +kernel)) ggX7_isTurnedShape_X7_isShape
set_option maxRecDepth 20000 in
theorem ggX7_isTurnedShape_X7_within : GoodIn wsX7_isTurnedShape wsX7_within := goodIn_r _ [10] (by decide +kernel) (by decide +kernel)
set_option maxRecDepth 20000 in
theorem gX7_isTurnedShape_X7_within : GoodIn wsX7_isTurnedShape (va_wsS RX7 64 yX7_within wsX7_within) := goodIn_app (goodIn_of _ (by decide +kernel)) ggX7_isTurnedShape_X7_within
theorem dX7_isTurnedShape_0 : decode cX7_isTurnedShape 0 = .ok (.aload_n 0, 1) := by decide +kernel
theorem dX7_isTurnedShape_1 : decode cX7_isTurnedShape 1 = .ok (.iload_n 1, 1) := by decide +kernel
theorem dX7_isTurnedShape_2 : decode cX7_isTurnedShape 2 = .ok (.invokevirtual 106, 3) := by decide +kernel
theorem dX7_isTurnedShape_5 : decode cX7_isTurnedShape 5 = .ok (.ifCond .eq 15, 3) := by decide +kernel
theorem dX7_isTurnedShape_8 : decode cX7_isTurnedShape 8 = .ok (.iload_n 2, 1) := by decide +kernel
theorem dX7_isTurnedShape_9 : decode cX7_isTurnedShape 9 = .ok (.iconst 4, 1) := by decide +kernel
theorem dX7_isTurnedShape_10 : decode cX7_isTurnedShape 10 = .ok (.invokestatic 64, 3) := by decide +kernel
theorem dX7_isTurnedShape_13 : decode cX7_isTurnedShape 13 = .ok (.ifCond .eq 7, 3) := by decide +kernel
theorem dX7_isTurnedShape_16 : decode cX7_isTurnedShape 16 = .ok (.iconst 1, 1) := by decide +kernel
theorem dX7_isTurnedShape_17 : decode cX7_isTurnedShape 17 = .ok (.goto 4, 3) := by decide +kernel
theorem dX7_isTurnedShape_20 : decode cX7_isTurnedShape 20 = .ok (.iconst 0, 1) := by decide +kernel
theorem dX7_isTurnedShape_21 : decode cX7_isTurnedShape 21 = .ok (.ireturn, 1) := by decide +kernel
set_option maxRecDepth 100000 in
theorem r_X7_isTurnedShape_0 {X : Bn} (C : Cx X cX7_isTurnedShape 3 RX7 wsX7_isTurnedShape 2 42) (ad : Nat → Nat) (S : MS) (x1 : Int32) (x2 : Int32) (h : Ends X (some .boolean) (some (.int (b2i (if (f_X7_isShape S x1) then (if (f_X7_within x2 (4 : Int32)) then true else false) else false)))) (cW X.E ad S)) : At X 3 (cW X.E ad S) 0 [(0, .ref (ad 0)), (1, .int x1), (2, .int x2)] [] := by
  refine at_aload_n C dX7_isTurnedShape_0 rfl (j := 0) rfl ?_
  refine at_iload_n C dX7_isTurnedShape_1 rfl (j := 1) rfl ?_
  refine at_cV1 C 1 (c_X7_isShape X.l X.D X.E X.a1 X.a2 ad S x1) gX7_isTurnedShape_X7_isShape rfl (by decide +kernel) ⟨rfl, rfl⟩ rfl rfl rfl 0 cW_c0 rfl dX7_isTurnedShape_2 ?_
  have K : At X 3 (cW X.E ad S) 21 [] [.int (b2i (if (f_X7_isShape S x1) then (if (f_X7_within x2 (4 : Int32)) then true else false) else false))] := by
    exact at_zret C dX7_isTurnedShape_21 (b2i_nar _) h
  refine at_ifB_eq C dX7_isTurnedShape_5 (tgt := 20) (by decide) (fun hc0 => ?_) (fun hc0 => ?_)
  · skip
    refine at_iconst C dX7_isTurnedShape_20 (v := 0) rfl ?_
    refine at_lv [] rfl ?_
    first | (simp only [if_neg (show ¬ (f_X7_isShape S x1) = true by rw [hc0]; decide)] at K; exact K) | exact K
  · skip
    refine at_iload_n C dX7_isTurnedShape_8 rfl (j := 2) rfl ?_
    refine at_iconst C dX7_isTurnedShape_9 (v := 4) rfl ?_
    refine at_cS0 C 2 (c_X7_within X.l X.D X.E X.a1 X.a2 x2 (4 : Int32)) gX7_isTurnedShape_X7_within rfl (by decide +kernel) ⟨rfl, rfl⟩ rfl rfl rfl dX7_isTurnedShape_10 ?_
    refine at_ifB_eq C dX7_isTurnedShape_13 (tgt := 20) (by decide) (fun hc1 => ?_) (fun hc1 => ?_)
    · skip
      refine at_iconst C dX7_isTurnedShape_20 (v := 0) rfl ?_
      refine at_lv [] rfl ?_
      first | (simp only [if_pos hc0, if_neg (show ¬ (f_X7_within x2 (4 : Int32)) = true by rw [hc1]; decide)] at K; exact K) | exact K
    · skip
      refine at_iconst C dX7_isTurnedShape_16 (v := 1) rfl ?_
      refine at_goto C dX7_isTurnedShape_17 (tgt := 21) (by decide) ?_
      refine at_lv [] rfl ?_
      first | (simp only [if_pos hc0, if_pos hc1] at K; exact K) | exact K
def f_X7_isTurnedShape (S : MS) (x1 : Int32) (x2 : Int32) : Bool := (if (f_X7_isShape S x1) then (if (f_X7_within x2 (4 : Int32)) then true else false) else false)
set_option maxRecDepth 100000 in
theorem c_X7_isTurnedShape (l : Launch) (D : va_G) (E : Nat → ClassId) (a1 a2 : Nat) (ad : Nat → Nat) (S : MS) (x1 : Int32) (x2 : Int32) : Fn l D E a1 a2 yX7_isTurnedShape wsX7_isTurnedShape 2 42 [.ref (ad 0), .int x1, .int x2] (cW E ad S) (some (.int (b2i (f_X7_isTurnedShape S x1 x2)))) (cW E ad S) := by
  refine Fn.of (cc := cX7_isTurnedShape) (maxL := 3) (ret := (some .boolean)) (own := RX7) (by decide) rfl rfl rfl (Nat.le_of_ble_eq_true rfl) (fun X h1 h2 h3 h4 h5 C hE => ?_)
  subst h1 h2 h3 h4 h5
  refine r_X7_isTurnedShape_0 C ad S x1 x2 ?_
  simp only [f_X7_isTurnedShape, b2i_t, b2i_f] at hE
  exact hE
set_option maxRecDepth 20000 in
theorem ggX7_isStand_X7_isTurnedShape : GoodIn wsX7_isStand wsX7_isTurnedShape := goodIn_r _ [5, 6, 7, 8, 4, 9, 10, 11, 12, 13, 14, 15, 16, 17, 18, 19, 20, 21, 22, 23, 24, 25, 26] (by decide +kernel) (by decide +kernel)
set_option maxRecDepth 20000 in
theorem gX7_isStand_X7_isTurnedShape : GoodIn wsX7_isStand (wsV RX7 82 RX7 yX7_isTurnedShape wsX7_isTurnedShape) := goodIn_app (goodIn_of _ (by decide +kernel)) ggX7_isStand_X7_isTurnedShape
set_option maxRecDepth 20000 in
theorem ggX7_isStand_X7_within : GoodIn wsX7_isStand wsX7_within := goodIn_r _ [14] (by decide +kernel) (by decide +kernel)
set_option maxRecDepth 20000 in
theorem gX7_isStand_X7_within : GoodIn wsX7_isStand (va_wsS RX7 64 yX7_within wsX7_within) := goodIn_app (goodIn_of _ (by decide +kernel)) ggX7_isStand_X7_within
theorem dX7_isStand_0 : decode cX7_isStand 0 = .ok (.aload_n 0, 1) := by decide +kernel
theorem dX7_isStand_1 : decode cX7_isStand 1 = .ok (.iload_n 1, 1) := by decide +kernel
theorem dX7_isStand_2 : decode cX7_isStand 2 = .ok (.iload_n 2, 1) := by decide +kernel
theorem dX7_isStand_3 : decode cX7_isStand 3 = .ok (.invokevirtual 82, 3) := by decide +kernel
theorem dX7_isStand_6 : decode cX7_isStand 6 = .ok (.ifCond .eq 16, 3) := by decide +kernel
theorem dX7_isStand_9 : decode cX7_isStand 9 = .ok (.iload_n 3, 1) := by decide +kernel
theorem dX7_isStand_10 : decode cX7_isStand 10 = .ok (.bipush 64, 2) := by decide +kernel
theorem dX7_isStand_12 : decode cX7_isStand 12 = .ok (.invokestatic 64, 3) := by decide +kernel
theorem dX7_isStand_15 : decode cX7_isStand 15 = .ok (.ifCond .eq 7, 3) := by decide +kernel
theorem dX7_isStand_18 : decode cX7_isStand 18 = .ok (.iconst 1, 1) := by decide +kernel
theorem dX7_isStand_19 : decode cX7_isStand 19 = .ok (.goto 4, 3) := by decide +kernel
theorem dX7_isStand_22 : decode cX7_isStand 22 = .ok (.iconst 0, 1) := by decide +kernel
theorem dX7_isStand_23 : decode cX7_isStand 23 = .ok (.ireturn, 1) := by decide +kernel
set_option maxRecDepth 100000 in
theorem r_X7_isStand_0 {X : Bn} (C : Cx X cX7_isStand 4 RX7 wsX7_isStand 3 64) (ad : Nat → Nat) (S : MS) (x1 : Int32) (x2 : Int32) (x3 : Int32) (h : Ends X (some .boolean) (some (.int (b2i (if (f_X7_isTurnedShape S x1 x2) then (if (f_X7_within x3 (64 : Int32)) then true else false) else false)))) (cW X.E ad S)) : At X 4 (cW X.E ad S) 0 [(0, .ref (ad 0)), (1, .int x1), (2, .int x2), (3, .int x3)] [] := by
  refine at_aload_n C dX7_isStand_0 rfl (j := 0) rfl ?_
  refine at_iload_n C dX7_isStand_1 rfl (j := 1) rfl ?_
  refine at_iload_n C dX7_isStand_2 rfl (j := 2) rfl ?_
  refine at_cV1 C 2 (c_X7_isTurnedShape X.l X.D X.E X.a1 X.a2 ad S x1 x2) gX7_isStand_X7_isTurnedShape rfl (by decide +kernel) ⟨rfl, rfl⟩ rfl rfl rfl 0 cW_c0 rfl dX7_isStand_3 ?_
  have K : At X 4 (cW X.E ad S) 23 [] [.int (b2i (if (f_X7_isTurnedShape S x1 x2) then (if (f_X7_within x3 (64 : Int32)) then true else false) else false))] := by
    exact at_zret C dX7_isStand_23 (b2i_nar _) h
  refine at_ifB_eq C dX7_isStand_6 (tgt := 22) (by decide) (fun hc0 => ?_) (fun hc0 => ?_)
  · skip
    refine at_iconst C dX7_isStand_22 (v := 0) rfl ?_
    refine at_lv [] rfl ?_
    first | (simp only [if_neg (show ¬ (f_X7_isTurnedShape S x1 x2) = true by rw [hc0]; decide)] at K; exact K) | exact K
  · skip
    refine at_iload_n C dX7_isStand_9 rfl (j := 3) rfl ?_
    refine at_bipush C dX7_isStand_10 (v := 64) rfl ?_
    refine at_cS0 C 2 (c_X7_within X.l X.D X.E X.a1 X.a2 x3 (64 : Int32)) gX7_isStand_X7_within rfl (by decide +kernel) ⟨rfl, rfl⟩ rfl rfl rfl dX7_isStand_12 ?_
    refine at_ifB_eq C dX7_isStand_15 (tgt := 22) (by decide) (fun hc1 => ?_) (fun hc1 => ?_)
    · skip
      refine at_iconst C dX7_isStand_22 (v := 0) rfl ?_
      refine at_lv [] rfl ?_
      first | (simp only [if_pos hc0, if_neg (show ¬ (f_X7_within x3 (64 : Int32)) = true by rw [hc1]; decide)] at K; exact K) | exact K
    · skip
      refine at_iconst C dX7_isStand_18 (v := 1) rfl ?_
      refine at_goto C dX7_isStand_19 (tgt := 23) (by decide) ?_
      refine at_lv [] rfl ?_
      first | (simp only [if_pos hc0, if_pos hc1] at K; exact K) | exact K
def f_X7_isStand (S : MS) (x1 : Int32) (x2 : Int32) (x3 : Int32) : Bool := (if (f_X7_isTurnedShape S x1 x2) then (if (f_X7_within x3 (64 : Int32)) then true else false) else false)
set_option maxRecDepth 100000 in
theorem c_X7_isStand (l : Launch) (D : va_G) (E : Nat → ClassId) (a1 a2 : Nat) (ad : Nat → Nat) (S : MS) (x1 : Int32) (x2 : Int32) (x3 : Int32) : Fn l D E a1 a2 yX7_isStand wsX7_isStand 3 64 [.ref (ad 0), .int x1, .int x2, .int x3] (cW E ad S) (some (.int (b2i (f_X7_isStand S x1 x2 x3)))) (cW E ad S) := by
  refine Fn.of (cc := cX7_isStand) (maxL := 4) (ret := (some .boolean)) (own := RX7) (by decide) rfl rfl rfl (Nat.le_of_ble_eq_true rfl) (fun X h1 h2 h3 h4 h5 C hE => ?_)
  subst h1 h2 h3 h4 h5
  refine r_X7_isStand_0 C ad S x1 x2 x3 ?_
  simp only [f_X7_isStand, b2i_t, b2i_f] at hE
  exact hE
theorem dX7_found_0 : decode cX7_found 0 = .ok (.aload_n 0, 1) := by decide +kernel
theorem dX7_found_1 : decode cX7_found 1 = .ok (.iload_n 1, 1) := by decide +kernel
theorem dX7_found_2 : decode cX7_found 2 = .ok (.putfield 56, 3) := by decide +kernel
theorem dX7_found_5 : decode cX7_found 5 = .ok (.bipush (-10), 2) := by decide +kernel
theorem dX7_found_7 : decode cX7_found 7 = .ok (.iload_n 1, 1) := by decide +kernel
theorem dX7_found_8 : decode cX7_found 8 = .ok (.isub, 1) := by decide +kernel
theorem dX7_found_9 : decode cX7_found 9 = .ok (.ireturn, 1) := by decide +kernel
theorem iw_X7_found_X7 : ∀ w ∈ u_ws RX7 TX7 8, w ∈ wsX7_found := by decide +kernel
theorem lk_X7_found_0 : Cond.fieldLink RX7 56 (TX7 7).1 (TX7 7).2.1 (TX7 7).2.2.1 ∈ wsX7_found := by decide +kernel
set_option maxRecDepth 100000 in
theorem r_X7_found_0 {X : Bn} (C : Cx X cX7_found 2 RX7 wsX7_found 0 0) (ad : Nat → Nat) (S : MS) (x1 : Int32) (h : Ends X (some .int) (some (.int ((-10) - x1))) (cW X.E ad (pg S 16 0 x1))) : At X 2 (cW X.E ad S) 0 [(0, .ref (ad 0)), (1, .int x1)] [] := by
  refine at_aload_n C dX7_found_0 rfl (j := 0) rfl ?_
  refine at_iload_n C dX7_found_1 rfl (j := 1) rfl ?_
  refine at_put C (K := RX7) (T := TX7) (N := 8) (ci := 6) (ty := .int) iw_X7_found_X7 tyX7 tyX7_ok nmX7 0 cW_c0 rfl 7 (by decide) lk_X7_found_0 rfl rfl rfl rfl (Nat.le_of_ble_eq_true rfl) cW_f0_7 dX7_found_2 ?_
  refine at_bipush C dX7_found_5 (v := (-10)) rfl ?_
  refine at_iload_n C dX7_found_7 rfl (j := 1) rfl ?_
  refine at_isub C dX7_found_8 ?_
  exact at_iret C dX7_found_9 h
def f_X7_found (S : MS) (x1 : Int32) : Int32 := (-10) - x1
def s_X7_found (S : MS) (x1 : Int32) : MS := (pg S 16 0 x1)
set_option maxRecDepth 100000 in
theorem c_X7_found (l : Launch) (D : va_G) (E : Nat → ClassId) (a1 a2 : Nat) (ad : Nat → Nat) (S : MS) (x1 : Int32) : Fn l D E a1 a2 yX7_found wsX7_found 0 0 [.ref (ad 0), .int x1] (cW E ad S) (some (.int (f_X7_found S x1))) (cW E ad (s_X7_found S x1)) := by
  refine Fn.of (cc := cX7_found) (maxL := 2) (ret := (some .int)) (own := RX7) (by decide) rfl rfl (sameC _ _ _ _) (Nat.le_of_ble_eq_true rfl) (fun X h1 h2 h3 h4 h5 C hE => ?_)
  subst h1 h2 h3 h4 h5
  refine r_X7_found_0 C ad S x1 ?_
  simp only [f_X7_found, s_X7_found] at hE
  exact hE
theorem dX7_fault_0 : decode cX7_fault 0 = .ok (.iload_n 1, 1) := by decide +kernel
theorem dX7_fault_1 : decode cX7_fault 1 = .ok (.ifCond .ne 11, 3) := by decide +kernel
theorem dX7_fault_4 : decode cX7_fault 4 = .ok (.aload_n 0, 1) := by decide +kernel
theorem dX7_fault_5 : decode cX7_fault 5 = .ok (.getfield 24, 3) := by decide +kernel
theorem dX7_fault_8 : decode cX7_fault 8 = .ok (.getfield 78, 3) := by decide +kernel
theorem dX7_fault_11 : decode cX7_fault 11 = .ok (.ireturn, 1) := by decide +kernel
theorem dX7_fault_12 : decode cX7_fault 12 = .ok (.iload_n 1, 1) := by decide +kernel
theorem dX7_fault_13 : decode cX7_fault 13 = .ok (.iconst 1, 1) := by decide +kernel
theorem dX7_fault_14 : decode cX7_fault 14 = .ok (.if_icmp .ne 13, 3) := by decide +kernel
theorem dX7_fault_17 : decode cX7_fault 17 = .ok (.aload_n 0, 1) := by decide +kernel
theorem dX7_fault_18 : decode cX7_fault 18 = .ok (.getfield 31, 3) := by decide +kernel
theorem dX7_fault_21 : decode cX7_fault 21 = .ok (.getfield 81, 3) := by decide +kernel
theorem dX7_fault_24 : decode cX7_fault 24 = .ok (.goto 5, 3) := by decide +kernel
theorem dX7_fault_27 : decode cX7_fault 27 = .ok (.bipush (-2), 2) := by decide +kernel
theorem dX7_fault_29 : decode cX7_fault 29 = .ok (.ireturn, 1) := by decide +kernel
theorem iw_X7_fault_X1 : ∀ w ∈ u_ws RX1 TX1 6, w ∈ wsX7_fault := by decide +kernel
theorem iw_X7_fault_X3 : ∀ w ∈ u_ws RX3 TX3 4, w ∈ wsX7_fault := by decide +kernel
theorem iw_X7_fault_X7 : ∀ w ∈ u_ws RX7 TX7 8, w ∈ wsX7_fault := by decide +kernel
theorem lk_X7_fault_0 : Cond.fieldLink RX7 31 (TX7 3).1 (TX7 3).2.1 (TX7 3).2.2.1 ∈ wsX7_fault := by decide +kernel
theorem lk_X7_fault_1 : Cond.fieldLink RX7 81 (TX1 2).1 (TX1 2).2.1 (TX1 2).2.2.1 ∈ wsX7_fault := by decide +kernel
theorem lk_X7_fault_2 : Cond.fieldLink RX7 24 (TX7 2).1 (TX7 2).2.1 (TX7 2).2.2.1 ∈ wsX7_fault := by decide +kernel
theorem lk_X7_fault_3 : Cond.fieldLink RX7 78 (TX3 3).1 (TX3 3).2.1 (TX3 3).2.2.1 ∈ wsX7_fault := by decide +kernel
set_option maxRecDepth 100000 in
theorem r_X7_fault_0 {X : Bn} (C : Cx X cX7_fault 2 RX7 wsX7_fault 0 0) (ad : Nat → Nat) (S : MS) (x1 : Int32) (h : ((x1 = 0) → (Ends X (some .int) (some (.int (S.1 7 0))) (cW X.E ad S))) ∧ (¬ x1 = 0 → (Ends X (some .int) (some (.int (if x1 = 1 then S.1 8 0 else (-2)))) (cW X.E ad S)))) : At X 2 (cW X.E ad S) 0 [(0, .ref (ad 0)), (1, .int x1)] [] := by
  refine at_iload_n C dX7_fault_0 rfl (j := 1) rfl ?_
  refine at_if_ne C dX7_fault_1 (tgt := 12) (by decide) (fun hc1 => ?_) (fun hc1 => ?_)
  · replace h := h.2 hc1
    refine at_iload_n C dX7_fault_12 rfl (j := 1) rfl ?_
    refine at_iconst C dX7_fault_13 (v := 1) rfl ?_
    have K : At X 2 (cW X.E ad S) 29 [] [.int (if x1 = 1 then S.1 8 0 else (-2))] := by
      exact at_iret C dX7_fault_29 h
    refine at_icmp_ne C dX7_fault_14 (tgt := 27) (by decide) (fun hc2 => ?_) (fun hc2 => ?_)
    · skip
      refine at_bipush C dX7_fault_27 (v := (-2)) rfl ?_
      refine at_lv [] rfl ?_
      first | (simp only [if_neg hc2] at K; exact K) | exact K
    · skip
      refine at_aload_n C dX7_fault_17 rfl (j := 0) rfl ?_
      refine at_get C (K := RX7) (T := TX7) (N := 8) (ci := 6) (v := .ref (ad 8)) iw_X7_fault_X7 0 cW_c0 rfl 3 (by decide) lk_X7_fault_0 rfl dX7_fault_18 ?_
      refine at_get C (K := RX1) (T := TX1) (N := 6) (ci := 1) (v := .int (S.1 8 0)) iw_X7_fault_X1 8 cW_c8 rfl 2 (by decide) lk_X7_fault_1 rfl dX7_fault_21 ?_
      refine at_goto C dX7_fault_24 (tgt := 29) (by decide) ?_
      refine at_lv [] rfl ?_
      first | (simp only [if_pos hc2] at K; exact K) | exact K
  · replace h := h.1 hc1
    refine at_aload_n C dX7_fault_4 rfl (j := 0) rfl ?_
    refine at_get C (K := RX7) (T := TX7) (N := 8) (ci := 6) (v := .ref (ad 5)) iw_X7_fault_X7 0 cW_c0 rfl 2 (by decide) lk_X7_fault_2 rfl dX7_fault_5 ?_
    refine at_get C (K := RX3) (T := TX3) (N := 4) (ci := 2) (v := .int (S.1 7 0)) iw_X7_fault_X3 5 cW_c5 rfl 3 (by decide) lk_X7_fault_3 rfl dX7_fault_8 ?_
    exact at_iret C dX7_fault_11 h
def f_X7_fault (S : MS) (x1 : Int32) : Int32 := if x1 = 0 then (S.1 7 0) else (if x1 = 1 then S.1 8 0 else (-2))
set_option maxRecDepth 100000 in
theorem c_X7_fault (l : Launch) (D : va_G) (E : Nat → ClassId) (a1 a2 : Nat) (ad : Nat → Nat) (S : MS) (x1 : Int32) : Fn l D E a1 a2 yX7_fault wsX7_fault 0 0 [.ref (ad 0), .int x1] (cW E ad S) (some (.int (f_X7_fault S x1))) (cW E ad S) := by
  refine Fn.of (cc := cX7_fault) (maxL := 2) (ret := (some .int)) (own := RX7) (by decide) rfl rfl rfl (Nat.le_of_ble_eq_true rfl) (fun X h1 h2 h3 h4 h5 C hE => ?_)
  subst h1 h2 h3 h4 h5
  refine r_X7_fault_0 C ad S x1 ?_
  refine ⟨fun hc0 => ?_, fun hc0 => ?_⟩
  · simp only [f_X7_fault, if_pos hc0] at hE
    exact hE
  · simp only [f_X7_fault, if_neg hc0] at hE
    exact hE
theorem dX7_forget_0 : decode cX7_forget 0 = .ok (.aload_n 0, 1) := by decide +kernel
theorem dX7_forget_1 : decode cX7_forget 1 = .ok (.getfield 45, 3) := by decide +kernel
theorem dX7_forget_4 : decode cX7_forget 4 = .ok (.getfield 154, 3) := by decide +kernel
theorem dX7_forget_7 : decode cX7_forget 7 = .ok (.istore_n 1, 1) := by decide +kernel
theorem dX7_forget_8 : decode cX7_forget 8 = .ok (.aload_n 0, 1) := by decide +kernel
theorem dX7_forget_9 : decode cX7_forget 9 = .ok (.getfield 45, 3) := by decide +kernel
theorem dX7_forget_12 : decode cX7_forget 12 = .ok (.iconst 0, 1) := by decide +kernel
theorem dX7_forget_13 : decode cX7_forget 13 = .ok (.putfield 154, 3) := by decide +kernel
theorem dX7_forget_16 : decode cX7_forget 16 = .ok (.iload_n 1, 1) := by decide +kernel
theorem dX7_forget_17 : decode cX7_forget 17 = .ok (.ireturn, 1) := by decide +kernel
theorem iw_X7_forget_X0 : ∀ w ∈ u_ws RX0 TX0 4, w ∈ wsX7_forget := by decide +kernel
theorem iw_X7_forget_X7 : ∀ w ∈ u_ws RX7 TX7 8, w ∈ wsX7_forget := by decide +kernel
theorem lk_X7_forget_0 : Cond.fieldLink RX7 45 (TX7 5).1 (TX7 5).2.1 (TX7 5).2.2.1 ∈ wsX7_forget := by decide +kernel
theorem lk_X7_forget_1 : Cond.fieldLink RX7 154 (TX0 3).1 (TX0 3).2.1 (TX0 3).2.2.1 ∈ wsX7_forget := by decide +kernel
set_option maxRecDepth 100000 in
theorem r_X7_forget_0 {X : Bn} (C : Cx X cX7_forget 2 RX7 wsX7_forget 0 0) (ad : Nat → Nat) (S : MS) (h : Ends X (some .int) (some (.int (S.1 15 0))) (cW X.E ad (pg S 15 0 0))) : At X 2 (cW X.E ad S) 0 [(0, .ref (ad 0))] [] := by
  refine at_aload_n C dX7_forget_0 rfl (j := 0) rfl ?_
  refine at_get C (K := RX7) (T := TX7) (N := 8) (ci := 6) (v := .ref (ad 15)) iw_X7_forget_X7 0 cW_c0 rfl 5 (by decide) lk_X7_forget_0 rfl dX7_forget_1 ?_
  refine at_get C (K := RX0) (T := TX0) (N := 4) (ci := 0) (v := .int (S.1 15 0)) iw_X7_forget_X0 15 cW_c15 rfl 3 (by decide) lk_X7_forget_1 rfl dX7_forget_4 ?_
  refine at_istore_n C dX7_forget_7 rfl (by decide) (lv' := [(1, .int (S.1 15 0)), (0, .ref (ad 0))]) rfl ?_
  refine at_aload_n C dX7_forget_8 rfl (j := 1) rfl ?_
  refine at_get C (K := RX7) (T := TX7) (N := 8) (ci := 6) (v := .ref (ad 15)) iw_X7_forget_X7 0 cW_c0 rfl 5 (by decide) lk_X7_forget_0 rfl dX7_forget_9 ?_
  refine at_iconst C dX7_forget_12 (v := 0) rfl ?_
  refine at_put C (K := RX0) (T := TX0) (N := 4) (ci := 0) (ty := .int) iw_X7_forget_X0 tyX0 tyX0_ok nmX0 15 cW_c15 rfl 3 (by decide) lk_X7_forget_1 rfl rfl rfl rfl (Nat.le_of_ble_eq_true rfl) cW_f15_3 dX7_forget_13 ?_
  refine at_iload_n C dX7_forget_16 rfl (j := 0) rfl ?_
  exact at_iret C dX7_forget_17 h
def f_X7_forget (S : MS) : Int32 := S.1 15 0
def s_X7_forget (S : MS) : MS := (pg S 15 0 0)
set_option maxRecDepth 100000 in
theorem c_X7_forget (l : Launch) (D : va_G) (E : Nat → ClassId) (a1 a2 : Nat) (ad : Nat → Nat) (S : MS) : Fn l D E a1 a2 yX7_forget wsX7_forget 0 0 [.ref (ad 0)] (cW E ad S) (some (.int (f_X7_forget S))) (cW E ad (s_X7_forget S)) := by
  refine Fn.of (cc := cX7_forget) (maxL := 2) (ret := (some .int)) (own := RX7) (by decide) rfl rfl (sameC _ _ _ _) (Nat.le_of_ble_eq_true rfl) (fun X h1 h2 h3 h4 h5 C hE => ?_)
  subst h1 h2 h3 h4 h5
  refine r_X7_forget_0 C ad S ?_
  simp only [f_X7_forget, s_X7_forget] at hE
  exact hE
theorem vp_of {x : Int32} {n : Nat} (hn : n < 2 ^ 31) (h0 : ¬ x < 0) (h1 : ¬ nI n ≤ x) : vp_in x n := by
  have a0 : (0 : Int) ≤ x.toInt := by simpa using Int32.le_iff_toInt_le.mp (Int32.not_lt.mp h0)
  have a1 : x.toInt < n := by
    have := Int32.lt_iff_toInt_lt.mp (Int32.not_le.mp h1)
    rwa [show (nI n).toInt = (n : Int) from Int32.toInt_ofNat_of_lt (by omega)] at this
  rintro (q | q)
  · exact h0 q
  · have : x.toInt.toNat < n := by omega
    exact absurd q (Nat.not_le.mpr this)
theorem vp_lt {x : Int32} {n : Nat} (hn : n < 2 ^ 31) (h0 : ¬ x < 0) (h1 : x < nI n) : vp_in x n := vp_of hn h0 (Int32.not_le.mpr h1)
theorem within_iff {x : Int32} {n : Nat} (hn : n < 2 ^ 31) : f_X7_within x (nI n) = true ↔ ∃ k, k < n ∧ x = nI k := by
  constructor
  · intro h
    unfold f_X7_within at h
    by_cases h0 : x < 0
    · rw [if_pos h0] at h; cases h
    · rw [if_neg h0] at h
      by_cases h1 : nI n ≤ x
      · rw [if_pos h1] at h; cases h
      · have a0 : (0 : Int) ≤ x.toInt := by simpa using Int32.le_iff_toInt_le.mp (Int32.not_lt.mp h0)
        have a1 : x.toInt < n := by
          have := Int32.lt_iff_toInt_lt.mp (Int32.not_le.mp h1)
          rwa [show (nI n).toInt = (n : Int) from Int32.toInt_ofNat_of_lt (by omega)] at this
        refine ⟨x.toInt.toNat, by omega, Int32.toInt_inj.mp ?_⟩
        show x.toInt = (Int32.ofNat x.toInt.toNat).toInt
        rw [Int32.toInt_ofNat_of_lt (by omega)]
        omega
  · rintro ⟨k, hk, rfl⟩
    unfold f_X7_within
    rw [if_neg (show ¬ nI k < 0 from Int32.not_lt.mpr ((nle (a := 0) (by decide) (by omega)).mpr (Nat.zero_le _))), if_neg (fun q => nlt_no (Q := False) (b := n) hn hk q)]
theorem within_no {x : Int32} {n : Nat} (hn : n < 2 ^ 31) (h : ¬ ∃ k, k < n ∧ x = nI k) : f_X7_within x (nI n) = false := by
  cases e : f_X7_within x (nI n)
  · rfl
  · exact absurd ((within_iff hn).mp e) h
theorem within_y {k n : Nat} (hn : n < 2 ^ 31) (h : k < n) : f_X7_within (nI k) (nI n) = true := (within_iff hn).mpr ⟨k, h, rfl⟩
theorem txN_le (k : Nat) : txN k ≤ 71 := by unfold txN; split <;> decide
theorem e_X5_append (l : Launch) (D : va_G) (E : Nat → ClassId) (a1 a2 : Nat) (ad : Nat → Nat) (S : MS) (k : Nat) (hk : k < 2) (x1 : Int32) : Fn l D E a1 a2 yX5_append wsX5_append 0 0 [.ref (ad (1 + 2 * k)), .int x1] (cW E ad S) (some (.int (b2i (f_X5_append S k x1)))) (cW E ad (s_X5_append S k x1)) :=
  c_X5_append l D E a1 a2 ad S k hk x1 (fun h0 h1 => vp_lt (by have := txN_le k; omega) h0 h1)
theorem e_X5_at (l : Launch) (D : va_G) (E : Nat → ClassId) (a1 a2 : Nat) (ad : Nat → Nat) (S : MS) (k : Nat) (hk : k < 2) (x1 : Int32) : Fn l D E a1 a2 yX5_at wsX5_at 0 0 [.ref (ad (1 + 2 * k)), .int x1] (cW E ad S) (some (.int (f_X5_at S k x1))) (cW E ad S) :=
  c_X5_at l D E a1 a2 ad S k hk x1 (fun h0 _ h1 => vp_of (by have := txN_le k; omega) h0 h1)
theorem e_X3_rowsOf (l : Launch) (D : va_G) (E : Nat → ClassId) (a1 a2 : Nat) (ad : Nat → Nat) (S : MS) (x1 x2 : Int32) : Fn l D E a1 a2 yX3_rowsOf wsX3_rowsOf 0 0 [.ref (ad 5), .int x1, .int x2] (cW E ad S) (some (.int (f_X3_rowsOf S x1 x2))) (cW E ad S) :=
  c_X3_rowsOf l D E a1 a2 ad S x1 x2 (fun h0 h1 => vp_of (by decide) h0 h1)
theorem e_X3_sightOf (l : Launch) (D : va_G) (E : Nat → ClassId) (a1 a2 : Nat) (ad : Nat → Nat) (S : MS) (x1 x2 x3 : Int32) : Fn l D E a1 a2 yX3_sightOf wsX3_sightOf 0 0 [.ref (ad 5), .int x1, .int x2, .int x3] (cW E ad S) (some (.int (f_X3_sightOf S x1 x2 x3))) (cW E ad S) :=
  c_X3_sightOf l D E a1 a2 ad S x1 x2 x3 (fun h0 h1 => vp_of (by decide) h0 h1)
theorem vp_within {x : Int32} {n : Nat} (hn : n < 2 ^ 31) (h : f_X7_within x (nI n) = true) : vp_in x n := by
  obtain ⟨k, hk, rfl⟩ := (within_iff hn).mp h
  exact vp_in_nI hk (by omega)
theorem e_X0_add (l : Launch) (D : va_G) (E : Nat → ClassId) (a1 a2 : Nat) (ad : Nat → Nat) (S : MS) (x1 x2 : Int32) : Fn l D E a1 a2 yX0_add wsX0_add 1 21 [.ref (ad 15), .int x1, .int x2] (cW E ad S) (some (.int (b2i (f_X0_add S x1 x2)))) (cW E ad (s_X0_add S x1 x2)) :=
  c_X0_add l D E a1 a2 ad S x1 x2 (fun h => ⟨vp_within (n := 8) (by decide) h, vp_within (n := 8) (by decide) h⟩)
theorem e_X6_setOut (l : Launch) (D : va_G) (E : Nat → ClassId) (a1 a2 : Nat) (ad : Nat → Nat) (S : MS) (x1 x2 : Int32) : Fn l D E a1 a2 yX6_setOut wsX6_setOut 1 21 [.ref (ad 10), .int x1, .int x2] (cW E ad S) (some (.int (b2i (f_X6_setOut S x1 x2)))) (cW E ad (s_X6_setOut S x1 x2)) :=
  c_X6_setOut l D E a1 a2 ad S x1 x2 (fun h _ => ⟨vp_within (n := 4) (by decide) h, vp_within (n := 4) (by decide) h⟩)
theorem within_neg {x n : Int32} (h : f_X7_within x n = true) : ¬ x < 0 := fun q => by unfold f_X7_within at h; rw [if_pos q] at h; cases h
theorem e_X4_item (l : Launch) (D : va_G) (E : Nat → ClassId) (a1 a2 : Nat) (ad : Nat → Nat) (S : MS) (k : Nat) (hk : k < 4) (x1 : Int32) : Fn l D E a1 a2 yX4_item wsX4_item 1 21 [.ref (ad (20 + 2 * k)), .int x1] (cW E ad S) (some (.int (f_X4_item S k x1))) (cW E ad S) :=
  c_X4_item l D E a1 a2 ad S k hk x1 (fun h0 h1 => vp_of (by decide) (within_neg h0) h1)
theorem e_X4_put (l : Launch) (D : va_G) (E : Nat → ClassId) (a1 a2 : Nat) (ad : Nat → Nat) (S : MS) (k : Nat) (hk : k < 4) (x1 x2 : Int32) : Fn l D E a1 a2 yX4_put wsX4_put 1 21 [.ref (ad (20 + 2 * k)), .int x1, .int x2] (cW E ad S) none (cW E ad (s_X4_put S k x1 x2)) :=
  c_X4_put l D E a1 a2 ad S k hk x1 x2 (fun h0 h1 => ⟨fun _ => vp_lt (n := 64) (by decide) (within_neg h0) h1, fun _ => vp_lt (n := 64) (by decide) (within_neg h0) h1, fun _ _ => vp_lt (n := 64) (by decide) (within_neg h0) h1⟩)
