set_option maxRecDepth 20000 in
theorem ggX1_standsFor_X2_bit : GoodIn wsX1_standsFor wsX2_bit := goodIn_r _ [7, 8] (by decide +kernel) (by decide +kernel)
set_option maxRecDepth 20000 in
theorem gX1_standsFor_X2_bit : GoodIn wsX1_standsFor (va_wsS RX1 53 yX2_bit wsX2_bit) := goodIn_app (goodIn_of _ (by decide +kernel)) ggX1_standsFor_X2_bit
theorem dX1_standsFor_0 : decode cX1_standsFor 0 = .ok (.ldc2_w 51, 3) := by decide +kernel
theorem dX1_standsFor_3 : decode cX1_standsFor 3 = .ok (.lstore_n 2, 1) := by decide +kernel
theorem dX1_standsFor_4 : decode cX1_standsFor 4 = .ok (.iconst 0, 1) := by decide +kernel
theorem dX1_standsFor_5 : decode cX1_standsFor 5 = .ok (.istore 4, 2) := by decide +kernel
theorem dX1_standsFor_7 : decode cX1_standsFor 7 = .ok (.iload 4, 2) := by decide +kernel
theorem dX1_standsFor_9 : decode cX1_standsFor 9 = .ok (.iconst 4, 1) := by decide +kernel
theorem dX1_standsFor_10 : decode cX1_standsFor 10 = .ok (.if_icmp .ge 68, 3) := by decide +kernel
theorem dX1_standsFor_13 : decode cX1_standsFor 13 = .ok (.iconst 0, 1) := by decide +kernel
theorem dX1_standsFor_14 : decode cX1_standsFor 14 = .ok (.istore 5, 2) := by decide +kernel
theorem dX1_standsFor_16 : decode cX1_standsFor 16 = .ok (.iload 5, 2) := by decide +kernel
theorem dX1_standsFor_18 : decode cX1_standsFor 18 = .ok (.iconst 4, 1) := by decide +kernel
theorem dX1_standsFor_19 : decode cX1_standsFor 19 = .ok (.if_icmp .ge 53, 3) := by decide +kernel
theorem dX1_standsFor_22 : decode cX1_standsFor 22 = .ok (.iload_n 1, 1) := by decide +kernel
theorem dX1_standsFor_23 : decode cX1_standsFor 23 = .ok (.iload 4, 2) := by decide +kernel
theorem dX1_standsFor_25 : decode cX1_standsFor 25 = .ok (.iload 5, 2) := by decide +kernel
theorem dX1_standsFor_27 : decode cX1_standsFor 27 = .ok (.invokestatic 53, 3) := by decide +kernel
theorem dX1_standsFor_30 : decode cX1_standsFor 30 = .ok (.iand, 1) := by decide +kernel
theorem dX1_standsFor_31 : decode cX1_standsFor 31 = .ok (.ifCond .eq 35, 3) := by decide +kernel
theorem dX1_standsFor_34 : decode cX1_standsFor 34 = .ok (.ldc2_w 59, 3) := by decide +kernel
theorem dX1_standsFor_37 : decode cX1_standsFor 37 = .ok (.sipush 255, 3) := by decide +kernel
theorem dX1_standsFor_40 : decode cX1_standsFor 40 = .ok (.iload 5, 2) := by decide +kernel
theorem dX1_standsFor_42 : decode cX1_standsFor 42 = .ok (.iushr, 1) := by decide +kernel
theorem dX1_standsFor_43 : decode cX1_standsFor 43 = .ok (.i2l, 1) := by decide +kernel
theorem dX1_standsFor_44 : decode cX1_standsFor 44 = .ok (.lmul, 1) := by decide +kernel
theorem dX1_standsFor_45 : decode cX1_standsFor 45 = .ok (.lstore 6, 2) := by decide +kernel
theorem dX1_standsFor_47 : decode cX1_standsFor 47 = .ok (.lload_n 2, 1) := by decide +kernel
theorem dX1_standsFor_48 : decode cX1_standsFor 48 = .ok (.aload_n 0, 1) := by decide +kernel
theorem dX1_standsFor_49 : decode cX1_standsFor 49 = .ok (.getfield 33, 3) := by decide +kernel
theorem dX1_standsFor_52 : decode cX1_standsFor 52 = .ok (.bipush 8, 2) := by decide +kernel
theorem dX1_standsFor_54 : decode cX1_standsFor 54 = .ok (.iload 4, 2) := by decide +kernel
theorem dX1_standsFor_56 : decode cX1_standsFor 56 = .ok (.imul, 1) := by decide +kernel
theorem dX1_standsFor_57 : decode cX1_standsFor 57 = .ok (.iload 5, 2) := by decide +kernel
theorem dX1_standsFor_59 : decode cX1_standsFor 59 = .ok (.iadd, 1) := by decide +kernel
theorem dX1_standsFor_60 : decode cX1_standsFor 60 = .ok (.lushr, 1) := by decide +kernel
theorem dX1_standsFor_61 : decode cX1_standsFor 61 = .ok (.lload 6, 2) := by decide +kernel
theorem dX1_standsFor_63 : decode cX1_standsFor 63 = .ok (.land, 1) := by decide +kernel
theorem dX1_standsFor_64 : decode cX1_standsFor 64 = .ok (.land, 1) := by decide +kernel
theorem dX1_standsFor_65 : decode cX1_standsFor 65 = .ok (.lstore_n 2, 1) := by decide +kernel
theorem dX1_standsFor_66 : decode cX1_standsFor 66 = .ok (.iinc 5 1, 3) := by decide +kernel
theorem dX1_standsFor_69 : decode cX1_standsFor 69 = .ok (.goto (-53), 3) := by decide +kernel
theorem dX1_standsFor_72 : decode cX1_standsFor 72 = .ok (.iinc 4 1, 3) := by decide +kernel
theorem dX1_standsFor_75 : decode cX1_standsFor 75 = .ok (.goto (-68), 3) := by decide +kernel
theorem dX1_standsFor_78 : decode cX1_standsFor 78 = .ok (.lload_n 2, 1) := by decide +kernel
theorem dX1_standsFor_79 : decode cX1_standsFor 79 = .ok (.lreturn, 1) := by decide +kernel
theorem iw_X1_standsFor_X1 : ∀ w ∈ u_ws RX1 TX1 6, w ∈ wsX1_standsFor := by decide +kernel
theorem lk_X1_standsFor_0 : Cond.constantLong RX1 51 (-1) ∈ wsX1_standsFor := by decide +kernel
theorem lk_X1_standsFor_1 : Cond.constantLong RX1 59 72340172838076673 ∈ wsX1_standsFor := by decide +kernel
theorem lk_X1_standsFor_2 : Cond.fieldLink RX1 33 (TX1 1).1 (TX1 1).2.1 (TX1 1).2.2.1 ∈ wsX1_standsFor := by decide +kernel
set_option maxRecDepth 100000 in
theorem r_X1_standsFor_0 {X : Bn} (C : Cx X cX1_standsFor 8 RX1 wsX1_standsFor 1 21) (ad : Nat → Nat) (S : MS) (x1 : Int32) (h : At X 8 (cW X.E ad S) 7 [(0, .ref (ad 8)), (1, .int x1), (2, .long (-1)), (4, .int 0)] []) : At X 8 (cW X.E ad S) 0 [(0, .ref (ad 8)), (1, .int x1)] [] := by
  refine at_ldc2 C lk_X1_standsFor_0 dX1_standsFor_0 ?_
  refine at_lstore_n C dX1_standsFor_3 rfl (by decide) (lv' := [(2, .long (-1)), (0, .ref (ad 8)), (1, .int x1)]) rfl ?_
  refine at_iconst C dX1_standsFor_4 (v := 0) rfl ?_
  refine at_istore C dX1_standsFor_5 (by decide) (lv' := [(4, .int 0), (2, .long (-1)), (0, .ref (ad 8)), (1, .int x1)]) rfl ?_
  refine at_lv [2, 3, 1, 0] rfl ?_
  exact h
set_option maxRecDepth 100000 in
theorem r_X1_standsFor_7 {X : Bn} (C : Cx X cX1_standsFor 8 RX1 wsX1_standsFor 1 21) (ad : Nat → Nat) (S : MS) (x1 : Int32) (x2 : Int64) (x4 : Int32) (h : ((4 ≤ x4) → (Ends X (some .long) (some (.long x2)) (cW X.E ad S))) ∧ (¬ 4 ≤ x4 → (At X 8 (cW X.E ad S) 16 [(0, .ref (ad 8)), (1, .int x1), (2, .long x2), (4, .int x4), (5, .int 0)] []))) : At X 8 (cW X.E ad S) 7 [(0, .ref (ad 8)), (1, .int x1), (2, .long x2), (4, .int x4)] [] := by
  refine at_iload C dX1_standsFor_7 (j := 3) rfl ?_
  refine at_iconst C dX1_standsFor_9 (v := 4) rfl ?_
  refine at_icmp_ge C dX1_standsFor_10 (tgt := 78) (by decide) (fun hc0 => ?_) (fun hc0 => ?_)
  · replace h := h.1 hc0
    refine at_lload_n C dX1_standsFor_78 rfl (j := 2) rfl ?_
    exact at_lret C dX1_standsFor_79 h
  · replace h := h.2 hc0
    refine at_iconst C dX1_standsFor_13 (v := 0) rfl ?_
    refine at_istore C dX1_standsFor_14 (by decide) (lv' := [(5, .int 0), (0, .ref (ad 8)), (1, .int x1), (2, .long x2), (4, .int x4)]) rfl ?_
    refine at_lv [1, 2, 3, 4, 0] rfl ?_
    exact h
set_option maxRecDepth 100000 in
theorem r_X1_standsFor_16 {X : Bn} (C : Cx X cX1_standsFor 8 RX1 wsX1_standsFor 1 21) (ad : Nat → Nat) (S : MS) (x1 : Int32) (x2 : Int64) (x4 : Int32) (x5 : Int32) (h : ((4 ≤ x5) → (At X 8 (cW X.E ad S) 7 [(0, .ref (ad 8)), (1, .int x1), (2, .long x2), (4, .int (x4 + 1))] [])) ∧ (¬ 4 ≤ x5 → (At X 8 (cW X.E ad S) 16 [(0, .ref (ad 8)), (1, .int x1), (2, .long (if x1 &&& (f_X2_bit x4 x5) = 0 then x2 else x2 &&& ((lush (S.2 1 0) ((8 * x4) + x5)) &&& (72340172838076673 * ((iush 255 x5).toInt64))))), (4, .int x4), (5, .int (x5 + 1))] []))) : At X 8 (cW X.E ad S) 16 [(0, .ref (ad 8)), (1, .int x1), (2, .long x2), (4, .int x4), (5, .int x5)] [] := by
  refine at_iload C dX1_standsFor_16 (j := 4) rfl ?_
  refine at_iconst C dX1_standsFor_18 (v := 4) rfl ?_
  refine at_icmp_ge C dX1_standsFor_19 (tgt := 72) (by decide) (fun hc1 => ?_) (fun hc1 => ?_)
  · replace h := h.1 hc1
    refine at_iinc C dX1_standsFor_72 (j := 3) (v := x4 + 1) rfl rfl (by decide) (lv' := [(4, .int (x4 + 1)), (0, .ref (ad 8)), (1, .int x1), (2, .long x2), (5, .int x5)]) rfl ?_
    refine at_goto C dX1_standsFor_75 (tgt := 7) (by decide) ?_
    refine at_lv [1, 2, 3, 0] rfl ?_
    exact h
  · replace h := h.2 hc1
    refine at_iload_n C dX1_standsFor_22 rfl (j := 1) rfl ?_
    refine at_iload C dX1_standsFor_23 (j := 3) rfl ?_
    refine at_iload C dX1_standsFor_25 (j := 4) rfl ?_
    refine at_cS0 C 2 (c_X2_bit X.l X.D X.E X.a1 X.a2 x4 x5) gX1_standsFor_X2_bit rfl (by decide +kernel) ⟨rfl, rfl⟩ rfl rfl rfl dX1_standsFor_27 ?_
    refine at_iand C dX1_standsFor_30 ?_
    have K : At X 8 (cW X.E ad S) 66 [(0, .ref (ad 8)), (1, .int x1), (2, .long (if x1 &&& (f_X2_bit x4 x5) = 0 then x2 else x2 &&& ((lush (S.2 1 0) ((8 * x4) + x5)) &&& (72340172838076673 * ((iush 255 x5).toInt64))))), (4, .int x4), (5, .int x5)] [] := by
      refine at_iinc C dX1_standsFor_66 (j := 4) (v := x5 + 1) rfl rfl (by decide) (lv' := [(5, .int (x5 + 1)), (0, .ref (ad 8)), (1, .int x1), (2, .long (if x1 &&& (f_X2_bit x4 x5) = 0 then x2 else x2 &&& ((lush (S.2 1 0) ((8 * x4) + x5)) &&& (72340172838076673 * ((iush 255 x5).toInt64))))), (4, .int x4)]) rfl ?_
      refine at_goto C dX1_standsFor_69 (tgt := 16) (by decide) ?_
      refine at_lv [1, 2, 3, 4, 0] rfl ?_
      exact h
    refine at_if_eq C dX1_standsFor_31 (tgt := 66) (by decide) (fun hc2 => ?_) (fun hc2 => ?_)
    · skip
      first | (simp only [if_pos hc2] at K; exact K) | exact K
    · skip
      refine at_ldc2 C lk_X1_standsFor_1 dX1_standsFor_34 ?_
      refine at_sipush C dX1_standsFor_37 (v := 255) rfl ?_
      refine at_iload C dX1_standsFor_40 (j := 4) rfl ?_
      refine at_iushr C dX1_standsFor_42 ?_
      refine at_i2l C dX1_standsFor_43 ?_
      refine at_lmul C dX1_standsFor_44 ?_
      refine at_lstore C dX1_standsFor_45 (by decide) (lv' := [(6, .long (72340172838076673 * ((iush 255 x5).toInt64))), (0, .ref (ad 8)), (1, .int x1), (2, .long x2), (4, .int x4), (5, .int x5)]) rfl ?_
      refine at_lload_n C dX1_standsFor_47 rfl (j := 3) rfl ?_
      refine at_aload_n C dX1_standsFor_48 rfl (j := 1) rfl ?_
      refine at_get C (K := RX1) (T := TX1) (N := 6) (ci := 1) (v := .long (S.2 1 0)) iw_X1_standsFor_X1 8 cW_c8 rfl 1 (by decide) lk_X1_standsFor_2 rfl dX1_standsFor_49 ?_
      refine at_bipush C dX1_standsFor_52 (v := 8) rfl ?_
      refine at_iload C dX1_standsFor_54 (j := 4) rfl ?_
      refine at_imul C dX1_standsFor_56 ?_
      refine at_iload C dX1_standsFor_57 (j := 5) rfl ?_
      refine at_iadd C dX1_standsFor_59 ?_
      refine at_lushr C dX1_standsFor_60 ?_
      refine at_lload C dX1_standsFor_61 (j := 0) rfl ?_
      refine at_land C dX1_standsFor_63 ?_
      refine at_land C dX1_standsFor_64 ?_
      refine at_lstore_n C dX1_standsFor_65 rfl (by decide) (lv' := [(2, .long (x2 &&& ((lush (S.2 1 0) ((8 * x4) + x5)) &&& (72340172838076673 * ((iush 255 x5).toInt64))))), (6, .long (72340172838076673 * ((iush 255 x5).toInt64))), (0, .ref (ad 8)), (1, .int x1), (4, .int x4), (5, .int x5)]) rfl ?_
      refine at_lv [2, 3, 0, 4, 5] rfl ?_
      first | (simp only [if_neg hc2] at K; exact K) | exact K
def sfStep (fr : Int64) (x : Int32) (r c : Nat) (a : Int64) : Int64 := if x &&& (f_X2_bit (nI r) (nI c)) = 0 then a else a &&& ((lush fr (8 * nI r + nI c)) &&& (72340172838076673 * ((iush 255 (nI c)).toInt64)))
def f_X1_standsFor (S : MS) (x : Int32) : Int64 := itF (fun r a => itF (fun c a => sfStep (S.2 1 0) x r c a) 0 4 a) 0 4 (-1)
set_option maxRecDepth 100000 in
theorem c_X1_standsFor (l : Launch) (D : va_G) (E : Nat → ClassId) (a1 a2 : Nat) (ad : Nat → Nat) (S : MS) (x1 : Int32) : Fn l D E a1 a2 yX1_standsFor wsX1_standsFor 1 21 [.ref (ad 8), .int x1] (cW E ad S) (some (.long (f_X1_standsFor S x1))) (cW E ad S) := by
  refine Fn.of (cc := cX1_standsFor) (maxL := 8) (ret := (some .long)) (own := RX1) (by decide) rfl rfl (sameC _ _ _ _) (Nat.le_of_ble_eq_true rfl) (fun X h1 h2 h3 h4 h5 C hE => ?_)
  subst h1 h2 h3 h4 h5
  refine r_X1_standsFor_0 C ad S x1 ?_
  refine for_go (P := fun r a => At X 8 (cW X.E ad S) 7 [(0, .ref (ad 8)), (1, .int x1), (2, .long a), (4, .int (nI r))] []) (N := 4) (fun r a => itF (fun c a => sfStep (S.2 1 0) x1 r c a) 0 4 a) (fun r a hr h => ?_) 4 0 (-1) rfl ?_
  · refine r_X1_standsFor_7 C ad S x1 a (nI r) ⟨fun hc => nlt_no (by decide) hr hc, fun _ => ?_⟩
    refine for_go (P := fun c a => At X 8 (cW X.E ad S) 16 [(0, .ref (ad 8)), (1, .int x1), (2, .long a), (4, .int (nI r)), (5, .int (nI c))] []) (N := 4) (fun c a => sfStep (S.2 1 0) x1 r c a) (fun c a hc h => ?_) 4 0 a rfl ?_
    · exact r_X1_standsFor_16 C ad S x1 a (nI r) (nI c) ⟨fun q => nlt_no (by decide) hc q, fun _ => by rw [nI_1]; exact h⟩
    · exact r_X1_standsFor_16 C ad S x1 _ (nI r) (nI 4) ⟨fun _ => by rw [nI_1]; exact h, fun q => nle_no q⟩
  · exact r_X1_standsFor_7 C ad S x1 _ (nI 4) ⟨fun _ => hE, fun q => nle_no q⟩
set_option maxRecDepth 20000 in
theorem ggX1_cellsCovered_X2_bit : GoodIn wsX1_cellsCovered wsX2_bit := goodIn_r _ [4, 5] (by decide +kernel) (by decide +kernel)
set_option maxRecDepth 20000 in
theorem gX1_cellsCovered_X2_bit : GoodIn wsX1_cellsCovered (va_wsS RX1 53 yX2_bit wsX2_bit) := goodIn_app (goodIn_of _ (by decide +kernel)) ggX1_cellsCovered_X2_bit
set_option maxRecDepth 20000 in
theorem ggX1_cellsCovered_X7_within : GoodIn wsX1_cellsCovered wsX7_within := goodIn_r _ [8] (by decide +kernel) (by decide +kernel)
set_option maxRecDepth 20000 in
theorem gX1_cellsCovered_X7_within_n43 : GoodIn wsX1_cellsCovered (wsX7_within) := ggX1_cellsCovered_X7_within
theorem dX1_cellsCovered_0 : decode cX1_cellsCovered 0 = .ok (.lconst 0, 1) := by decide +kernel
theorem dX1_cellsCovered_1 : decode cX1_cellsCovered 1 = .ok (.lstore_n 2, 1) := by decide +kernel
theorem dX1_cellsCovered_2 : decode cX1_cellsCovered 2 = .ok (.iconst 0, 1) := by decide +kernel
theorem dX1_cellsCovered_3 : decode cX1_cellsCovered 3 = .ok (.istore 4, 2) := by decide +kernel
theorem dX1_cellsCovered_5 : decode cX1_cellsCovered 5 = .ok (.iload 4, 2) := by decide +kernel
theorem dX1_cellsCovered_7 : decode cX1_cellsCovered 7 = .ok (.iconst 4, 1) := by decide +kernel
theorem dX1_cellsCovered_8 : decode cX1_cellsCovered 8 = .ok (.if_icmp .ge 65, 3) := by decide +kernel
theorem dX1_cellsCovered_11 : decode cX1_cellsCovered 11 = .ok (.iconst 0, 1) := by decide +kernel
theorem dX1_cellsCovered_12 : decode cX1_cellsCovered 12 = .ok (.istore 5, 2) := by decide +kernel
theorem dX1_cellsCovered_14 : decode cX1_cellsCovered 14 = .ok (.iload 5, 2) := by decide +kernel
theorem dX1_cellsCovered_16 : decode cX1_cellsCovered 16 = .ok (.iconst 4, 1) := by decide +kernel
theorem dX1_cellsCovered_17 : decode cX1_cellsCovered 17 = .ok (.if_icmp .ge 50, 3) := by decide +kernel
theorem dX1_cellsCovered_20 : decode cX1_cellsCovered 20 = .ok (.iload_n 1, 1) := by decide +kernel
theorem dX1_cellsCovered_21 : decode cX1_cellsCovered 21 = .ok (.bipush 8, 2) := by decide +kernel
theorem dX1_cellsCovered_23 : decode cX1_cellsCovered 23 = .ok (.iload 4, 2) := by decide +kernel
theorem dX1_cellsCovered_25 : decode cX1_cellsCovered 25 = .ok (.imul, 1) := by decide +kernel
theorem dX1_cellsCovered_26 : decode cX1_cellsCovered 26 = .ok (.iadd, 1) := by decide +kernel
theorem dX1_cellsCovered_27 : decode cX1_cellsCovered 27 = .ok (.iload 5, 2) := by decide +kernel
theorem dX1_cellsCovered_29 : decode cX1_cellsCovered 29 = .ok (.iadd, 1) := by decide +kernel
theorem dX1_cellsCovered_30 : decode cX1_cellsCovered 30 = .ok (.istore 6, 2) := by decide +kernel
theorem dX1_cellsCovered_32 : decode cX1_cellsCovered 32 = .ok (.iload_n 0, 1) := by decide +kernel
theorem dX1_cellsCovered_33 : decode cX1_cellsCovered 33 = .ok (.iload 4, 2) := by decide +kernel
theorem dX1_cellsCovered_35 : decode cX1_cellsCovered 35 = .ok (.iload 5, 2) := by decide +kernel
theorem dX1_cellsCovered_37 : decode cX1_cellsCovered 37 = .ok (.invokestatic 53, 3) := by decide +kernel
theorem dX1_cellsCovered_40 : decode cX1_cellsCovered 40 = .ok (.iand, 1) := by decide +kernel
theorem dX1_cellsCovered_41 : decode cX1_cellsCovered 41 = .ok (.ifCond .eq 20, 3) := by decide +kernel
theorem dX1_cellsCovered_44 : decode cX1_cellsCovered 44 = .ok (.iload 6, 2) := by decide +kernel
theorem dX1_cellsCovered_46 : decode cX1_cellsCovered 46 = .ok (.bipush 64, 2) := by decide +kernel
theorem dX1_cellsCovered_48 : decode cX1_cellsCovered 48 = .ok (.invokestatic 43, 3) := by decide +kernel
theorem dX1_cellsCovered_51 : decode cX1_cellsCovered 51 = .ok (.ifCond .eq 10, 3) := by decide +kernel
theorem dX1_cellsCovered_54 : decode cX1_cellsCovered 54 = .ok (.lload_n 2, 1) := by decide +kernel
theorem dX1_cellsCovered_55 : decode cX1_cellsCovered 55 = .ok (.lconst 1, 1) := by decide +kernel
theorem dX1_cellsCovered_56 : decode cX1_cellsCovered 56 = .ok (.iload 6, 2) := by decide +kernel
theorem dX1_cellsCovered_58 : decode cX1_cellsCovered 58 = .ok (.lshl, 1) := by decide +kernel
theorem dX1_cellsCovered_59 : decode cX1_cellsCovered 59 = .ok (.lor, 1) := by decide +kernel
theorem dX1_cellsCovered_60 : decode cX1_cellsCovered 60 = .ok (.lstore_n 2, 1) := by decide +kernel
theorem dX1_cellsCovered_61 : decode cX1_cellsCovered 61 = .ok (.iinc 5 1, 3) := by decide +kernel
theorem dX1_cellsCovered_64 : decode cX1_cellsCovered 64 = .ok (.goto (-50), 3) := by decide +kernel
theorem dX1_cellsCovered_67 : decode cX1_cellsCovered 67 = .ok (.iinc 4 1, 3) := by decide +kernel
theorem dX1_cellsCovered_70 : decode cX1_cellsCovered 70 = .ok (.goto (-65), 3) := by decide +kernel
theorem dX1_cellsCovered_73 : decode cX1_cellsCovered 73 = .ok (.lload_n 2, 1) := by decide +kernel
theorem dX1_cellsCovered_74 : decode cX1_cellsCovered 74 = .ok (.lreturn, 1) := by decide +kernel
set_option maxRecDepth 100000 in
theorem r_X1_cellsCovered_0 {X : Bn} (C : Cx X cX1_cellsCovered 7 RX1 wsX1_cellsCovered 1 21) {ws : va_W} (x0 : Int32) (x1 : Int32) (h : At X 7 (ws) 5 [(0, .int x0), (1, .int x1), (2, .long 0), (4, .int 0)] []) : At X 7 (ws) 0 [(0, .int x0), (1, .int x1)] [] := by
  refine at_lconst C dX1_cellsCovered_0 (v := 0) rfl ?_
  refine at_lstore_n C dX1_cellsCovered_1 rfl (by decide) (lv' := [(2, .long 0), (0, .int x0), (1, .int x1)]) rfl ?_
  refine at_iconst C dX1_cellsCovered_2 (v := 0) rfl ?_
  refine at_istore C dX1_cellsCovered_3 (by decide) (lv' := [(4, .int 0), (2, .long 0), (0, .int x0), (1, .int x1)]) rfl ?_
  refine at_lv [2, 3, 1, 0] rfl ?_
  exact h
set_option maxRecDepth 100000 in
theorem r_X1_cellsCovered_5 {X : Bn} (C : Cx X cX1_cellsCovered 7 RX1 wsX1_cellsCovered 1 21) {ws : va_W} (x0 : Int32) (x1 : Int32) (x2 : Int64) (x4 : Int32) (h : ((4 ≤ x4) → (Ends X (some .long) (some (.long x2)) (ws))) ∧ (¬ 4 ≤ x4 → (At X 7 (ws) 14 [(0, .int x0), (1, .int x1), (2, .long x2), (4, .int x4), (5, .int 0)] []))) : At X 7 (ws) 5 [(0, .int x0), (1, .int x1), (2, .long x2), (4, .int x4)] [] := by
  refine at_iload C dX1_cellsCovered_5 (j := 3) rfl ?_
  refine at_iconst C dX1_cellsCovered_7 (v := 4) rfl ?_
  refine at_icmp_ge C dX1_cellsCovered_8 (tgt := 73) (by decide) (fun hc0 => ?_) (fun hc0 => ?_)
  · replace h := h.1 hc0
    refine at_lload_n C dX1_cellsCovered_73 rfl (j := 2) rfl ?_
    exact at_lret C dX1_cellsCovered_74 h
  · replace h := h.2 hc0
    refine at_iconst C dX1_cellsCovered_11 (v := 0) rfl ?_
    refine at_istore C dX1_cellsCovered_12 (by decide) (lv' := [(5, .int 0), (0, .int x0), (1, .int x1), (2, .long x2), (4, .int x4)]) rfl ?_
    refine at_lv [1, 2, 3, 4, 0] rfl ?_
    exact h
set_option maxRecDepth 100000 in
theorem r_X1_cellsCovered_14 {X : Bn} (C : Cx X cX1_cellsCovered 7 RX1 wsX1_cellsCovered 1 21) {ws : va_W} (x0 : Int32) (x1 : Int32) (x2 : Int64) (x4 : Int32) (x5 : Int32) (h : ((4 ≤ x5) → (At X 7 (ws) 5 [(0, .int x0), (1, .int x1), (2, .long x2), (4, .int (x4 + 1))] [])) ∧ (¬ 4 ≤ x5 → (At X 7 (ws) 14 [(0, .int x0), (1, .int x1), (2, .long (if x0 &&& (f_X2_bit x4 x5) = 0 then x2 else (if (f_X7_within ((x1 + (8 * x4)) + x5) (64 : Int32)) then x2 ||| (lshl 1 ((x1 + (8 * x4)) + x5)) else x2))), (4, .int x4), (5, .int (x5 + 1))] []))) : At X 7 (ws) 14 [(0, .int x0), (1, .int x1), (2, .long x2), (4, .int x4), (5, .int x5)] [] := by
  refine at_iload C dX1_cellsCovered_14 (j := 4) rfl ?_
  refine at_iconst C dX1_cellsCovered_16 (v := 4) rfl ?_
  refine at_icmp_ge C dX1_cellsCovered_17 (tgt := 67) (by decide) (fun hc1 => ?_) (fun hc1 => ?_)
  · replace h := h.1 hc1
    refine at_iinc C dX1_cellsCovered_67 (j := 3) (v := x4 + 1) rfl rfl (by decide) (lv' := [(4, .int (x4 + 1)), (0, .int x0), (1, .int x1), (2, .long x2), (5, .int x5)]) rfl ?_
    refine at_goto C dX1_cellsCovered_70 (tgt := 5) (by decide) ?_
    refine at_lv [1, 2, 3, 0] rfl ?_
    exact h
  · replace h := h.2 hc1
    refine at_iload_n C dX1_cellsCovered_20 rfl (j := 1) rfl ?_
    refine at_bipush C dX1_cellsCovered_21 (v := 8) rfl ?_
    refine at_iload C dX1_cellsCovered_23 (j := 3) rfl ?_
    refine at_imul C dX1_cellsCovered_25 ?_
    refine at_iadd C dX1_cellsCovered_26 ?_
    refine at_iload C dX1_cellsCovered_27 (j := 4) rfl ?_
    refine at_iadd C dX1_cellsCovered_29 ?_
    refine at_istore C dX1_cellsCovered_30 (by decide) (lv' := [(6, .int ((x1 + (8 * x4)) + x5)), (0, .int x0), (1, .int x1), (2, .long x2), (4, .int x4), (5, .int x5)]) rfl ?_
    refine at_iload_n C dX1_cellsCovered_32 rfl (j := 1) rfl ?_
    refine at_iload C dX1_cellsCovered_33 (j := 4) rfl ?_
    refine at_iload C dX1_cellsCovered_35 (j := 5) rfl ?_
    refine at_cS0 C 2 (c_X2_bit X.l X.D X.E X.a1 X.a2 x4 x5) gX1_cellsCovered_X2_bit rfl (by decide +kernel) ⟨rfl, rfl⟩ rfl rfl rfl dX1_cellsCovered_37 ?_
    refine at_iand C dX1_cellsCovered_40 ?_
    have K : At X 7 (ws) 61 [(0, .int x0), (1, .int x1), (2, .long (if x0 &&& (f_X2_bit x4 x5) = 0 then x2 else (if (f_X7_within ((x1 + (8 * x4)) + x5) (64 : Int32)) then x2 ||| (lshl 1 ((x1 + (8 * x4)) + x5)) else x2))), (4, .int x4), (5, .int x5)] [] := by
      refine at_iinc C dX1_cellsCovered_61 (j := 4) (v := x5 + 1) rfl rfl (by decide) (lv' := [(5, .int (x5 + 1)), (0, .int x0), (1, .int x1), (2, .long (if x0 &&& (f_X2_bit x4 x5) = 0 then x2 else (if (f_X7_within ((x1 + (8 * x4)) + x5) (64 : Int32)) then x2 ||| (lshl 1 ((x1 + (8 * x4)) + x5)) else x2))), (4, .int x4)]) rfl ?_
      refine at_goto C dX1_cellsCovered_64 (tgt := 14) (by decide) ?_
      refine at_lv [1, 2, 3, 4, 0] rfl ?_
      exact h
    refine at_if_eq C dX1_cellsCovered_41 (tgt := 61) (by decide) (fun hc2 => ?_) (fun hc2 => ?_)
    · skip
      refine at_lv [1, 2, 3, 4, 5] rfl ?_
      first | (simp only [if_pos hc2] at K; exact K) | exact K
    · skip
      refine at_iload C dX1_cellsCovered_44 (j := 0) rfl ?_
      refine at_bipush C dX1_cellsCovered_46 (v := 64) rfl ?_
      refine at_cN0 C 2 (c_X7_within X.l X.D X.E X.a1 X.a2 ((x1 + (8 * x4)) + x5) (64 : Int32)) ggX1_cellsCovered_X7_within rfl (host := RX7) (by decide +kernel) (by decide +kernel) (by decide +kernel) (by decide +kernel) ⟨rfl, rfl⟩ rfl rfl rfl dX1_cellsCovered_48 ?_
      refine at_ifB_eq C dX1_cellsCovered_51 (tgt := 61) (by decide) (fun hc3 => ?_) (fun hc3 => ?_)
      · skip
        refine at_lv [1, 2, 3, 4, 5] rfl ?_
        first | (simp only [if_neg hc2, if_neg (show ¬ (f_X7_within ((x1 + (8 * x4)) + x5) (64 : Int32)) = true by rw [hc3]; decide)] at K; exact K) | exact K
      · skip
        refine at_lload_n C dX1_cellsCovered_54 rfl (j := 3) rfl ?_
        refine at_lconst C dX1_cellsCovered_55 (v := 1) rfl ?_
        refine at_iload C dX1_cellsCovered_56 (j := 0) rfl ?_
        refine at_lshl C dX1_cellsCovered_58 ?_
        refine at_lor C dX1_cellsCovered_59 ?_
        refine at_lstore_n C dX1_cellsCovered_60 rfl (by decide) (lv' := [(2, .long (x2 ||| (lshl 1 ((x1 + (8 * x4)) + x5)))), (6, .int ((x1 + (8 * x4)) + x5)), (0, .int x0), (1, .int x1), (4, .int x4), (5, .int x5)]) rfl ?_
        refine at_lv [2, 3, 0, 4, 5] rfl ?_
        first | (simp only [if_neg hc2, if_pos hc3] at K; exact K) | exact K
def ccStep (x at_ : Int32) (r c : Nat) (a : Int64) : Int64 := if x &&& (f_X2_bit (nI r) (nI c)) = 0 then a else (if (f_X7_within ((at_ + (8 * nI r)) + nI c) 64) then a ||| (lshl 1 ((at_ + (8 * nI r)) + nI c)) else a)
def f_X1_cellsCovered (x at_ : Int32) : Int64 := itF (fun r a => itF (fun c a => ccStep x at_ r c a) 0 4 a) 0 4 0
set_option maxRecDepth 100000 in
theorem c_X1_cellsCovered (l : Launch) (D : va_G) (E : Nat → ClassId) (a1 a2 : Nat)  (x0 x1 : Int32) : Fn l D E a1 a2 yX1_cellsCovered wsX1_cellsCovered 1 21 [.int x0, .int x1] [] (some (.long (f_X1_cellsCovered x0 x1))) [] := by
  refine Fn.of (cc := cX1_cellsCovered) (maxL := 7) (ret := (some .long)) (own := RX1) (by decide) rfl rfl rfl (Nat.le_of_ble_eq_true rfl) (fun X h1 h2 h3 h4 h5 C hE => ?_)
  subst h1 h2 h3 h4 h5
  refine r_X1_cellsCovered_0 C x0 x1 ?_
  refine for_go (P := fun r a => At X 7 [] 5 [(0, .int x0), (1, .int x1), (2, .long a), (4, .int (nI r))] []) (N := 4) (fun r a => itF (fun c a => ccStep x0 x1 r c a) 0 4 a) (fun r a hr h => ?_) 4 0 0 rfl ?_
  · refine r_X1_cellsCovered_5 C x0 x1 a (nI r) ⟨fun hc => nlt_no (by decide) hr hc, fun _ => ?_⟩
    refine for_go (P := fun c a => At X 7 [] 14 [(0, .int x0), (1, .int x1), (2, .long a), (4, .int (nI r)), (5, .int (nI c))] []) (N := 4) (fun c a => ccStep x0 x1 r c a) (fun c a hc h => ?_) 4 0 a rfl ?_
    · exact r_X1_cellsCovered_14 C x0 x1 a (nI r) (nI c) ⟨fun q => nlt_no (by decide) hc q, fun _ => by rw [nI_1]; exact h⟩
    · exact r_X1_cellsCovered_14 C x0 x1 _ (nI r) (nI 4) ⟨fun _ => by rw [nI_1]; exact h, fun q => nle_no q⟩
  · exact r_X1_cellsCovered_5 C x0 x1 _ (nI 4) ⟨fun _ => hE, fun q => nle_no q⟩
set_option maxRecDepth 20000 in
theorem ggX1_freeAhead_X7_within : GoodIn wsX1_freeAhead wsX7_within := goodIn_r _ [6] (by decide +kernel) (by decide +kernel)
set_option maxRecDepth 20000 in
theorem gX1_freeAhead_X7_within_n43 : GoodIn wsX1_freeAhead (wsX7_within) := ggX1_freeAhead_X7_within
theorem dX1_freeAhead_0 : decode cX1_freeAhead 0 = .ok (.iload_n 2, 1) := by decide +kernel
theorem dX1_freeAhead_1 : decode cX1_freeAhead 1 = .ok (.iconst 4, 1) := by decide +kernel
theorem dX1_freeAhead_2 : decode cX1_freeAhead 2 = .ok (.invokestatic 43, 3) := by decide +kernel
theorem dX1_freeAhead_5 : decode cX1_freeAhead 5 = .ok (.ifCond .ne 5, 3) := by decide +kernel
theorem dX1_freeAhead_8 : decode cX1_freeAhead 8 = .ok (.iconst 0, 1) := by decide +kernel
theorem dX1_freeAhead_9 : decode cX1_freeAhead 9 = .ok (.ireturn, 1) := by decide +kernel
theorem dX1_freeAhead_10 : decode cX1_freeAhead 10 = .ok (.iload_n 1, 1) := by decide +kernel
theorem dX1_freeAhead_11 : decode cX1_freeAhead 11 = .ok (.bipush 8, 2) := by decide +kernel
theorem dX1_freeAhead_13 : decode cX1_freeAhead 13 = .ok (.idiv, 1) := by decide +kernel
theorem dX1_freeAhead_14 : decode cX1_freeAhead 14 = .ok (.istore_n 3, 1) := by decide +kernel
theorem dX1_freeAhead_15 : decode cX1_freeAhead 15 = .ok (.iload_n 1, 1) := by decide +kernel
theorem dX1_freeAhead_16 : decode cX1_freeAhead 16 = .ok (.bipush 8, 2) := by decide +kernel
theorem dX1_freeAhead_18 : decode cX1_freeAhead 18 = .ok (.irem, 1) := by decide +kernel
theorem dX1_freeAhead_19 : decode cX1_freeAhead 19 = .ok (.istore 4, 2) := by decide +kernel
theorem dX1_freeAhead_21 : decode cX1_freeAhead 21 = .ok (.iconst 0, 1) := by decide +kernel
theorem dX1_freeAhead_22 : decode cX1_freeAhead 22 = .ok (.istore 5, 2) := by decide +kernel
theorem dX1_freeAhead_24 : decode cX1_freeAhead 24 = .ok (.iconst 1, 1) := by decide +kernel
theorem dX1_freeAhead_25 : decode cX1_freeAhead 25 = .ok (.istore 6, 2) := by decide +kernel
theorem dX1_freeAhead_27 : decode cX1_freeAhead 27 = .ok (.iload 6, 2) := by decide +kernel
theorem dX1_freeAhead_29 : decode cX1_freeAhead 29 = .ok (.bipush 8, 2) := by decide +kernel
theorem dX1_freeAhead_31 : decode cX1_freeAhead 31 = .ok (.if_icmp .ge 83, 3) := by decide +kernel
theorem dX1_freeAhead_34 : decode cX1_freeAhead 34 = .ok (.iload_n 3, 1) := by decide +kernel
theorem dX1_freeAhead_35 : decode cX1_freeAhead 35 = .ok (.getstatic 66, 3) := by decide +kernel
theorem dX1_freeAhead_38 : decode cX1_freeAhead 38 = .ok (.iload_n 2, 1) := by decide +kernel
theorem dX1_freeAhead_39 : decode cX1_freeAhead 39 = .ok (.iaload, 1) := by decide +kernel
theorem dX1_freeAhead_40 : decode cX1_freeAhead 40 = .ok (.iadd, 1) := by decide +kernel
theorem dX1_freeAhead_41 : decode cX1_freeAhead 41 = .ok (.istore_n 3, 1) := by decide +kernel
theorem dX1_freeAhead_42 : decode cX1_freeAhead 42 = .ok (.iload 4, 2) := by decide +kernel
theorem dX1_freeAhead_44 : decode cX1_freeAhead 44 = .ok (.getstatic 70, 3) := by decide +kernel
theorem dX1_freeAhead_47 : decode cX1_freeAhead 47 = .ok (.iload_n 2, 1) := by decide +kernel
theorem dX1_freeAhead_48 : decode cX1_freeAhead 48 = .ok (.iaload, 1) := by decide +kernel
theorem dX1_freeAhead_49 : decode cX1_freeAhead 49 = .ok (.iadd, 1) := by decide +kernel
theorem dX1_freeAhead_50 : decode cX1_freeAhead 50 = .ok (.istore 4, 2) := by decide +kernel
theorem dX1_freeAhead_52 : decode cX1_freeAhead 52 = .ok (.iload_n 3, 1) := by decide +kernel
theorem dX1_freeAhead_53 : decode cX1_freeAhead 53 = .ok (.bipush 8, 2) := by decide +kernel
theorem dX1_freeAhead_55 : decode cX1_freeAhead 55 = .ok (.invokestatic 43, 3) := by decide +kernel
theorem dX1_freeAhead_58 : decode cX1_freeAhead 58 = .ok (.ifCond .eq 17, 3) := by decide +kernel
theorem dX1_freeAhead_61 : decode cX1_freeAhead 61 = .ok (.iload 4, 2) := by decide +kernel
theorem dX1_freeAhead_63 : decode cX1_freeAhead 63 = .ok (.bipush 8, 2) := by decide +kernel
theorem dX1_freeAhead_65 : decode cX1_freeAhead 65 = .ok (.invokestatic 43, 3) := by decide +kernel
theorem dX1_freeAhead_68 : decode cX1_freeAhead 68 = .ok (.ifCond .eq 7, 3) := by decide +kernel
theorem dX1_freeAhead_71 : decode cX1_freeAhead 71 = .ok (.iconst 1, 1) := by decide +kernel
theorem dX1_freeAhead_72 : decode cX1_freeAhead 72 = .ok (.goto 4, 3) := by decide +kernel
theorem dX1_freeAhead_75 : decode cX1_freeAhead 75 = .ok (.iconst 0, 1) := by decide +kernel
theorem dX1_freeAhead_76 : decode cX1_freeAhead 76 = .ok (.istore 7, 2) := by decide +kernel
theorem dX1_freeAhead_78 : decode cX1_freeAhead 78 = .ok (.iload 7, 2) := by decide +kernel
theorem dX1_freeAhead_80 : decode cX1_freeAhead 80 = .ok (.ifCond .eq 22, 3) := by decide +kernel
theorem dX1_freeAhead_83 : decode cX1_freeAhead 83 = .ok (.aload_n 0, 1) := by decide +kernel
theorem dX1_freeAhead_84 : decode cX1_freeAhead 84 = .ok (.getfield 33, 3) := by decide +kernel
theorem dX1_freeAhead_87 : decode cX1_freeAhead 87 = .ok (.bipush 8, 2) := by decide +kernel
theorem dX1_freeAhead_89 : decode cX1_freeAhead 89 = .ok (.iload_n 3, 1) := by decide +kernel
theorem dX1_freeAhead_90 : decode cX1_freeAhead 90 = .ok (.imul, 1) := by decide +kernel
theorem dX1_freeAhead_91 : decode cX1_freeAhead 91 = .ok (.iload 4, 2) := by decide +kernel
theorem dX1_freeAhead_93 : decode cX1_freeAhead 93 = .ok (.iadd, 1) := by decide +kernel
theorem dX1_freeAhead_94 : decode cX1_freeAhead 94 = .ok (.lushr, 1) := by decide +kernel
theorem dX1_freeAhead_95 : decode cX1_freeAhead 95 = .ok (.lconst 1, 1) := by decide +kernel
theorem dX1_freeAhead_96 : decode cX1_freeAhead 96 = .ok (.land, 1) := by decide +kernel
theorem dX1_freeAhead_97 : decode cX1_freeAhead 97 = .ok (.lconst 0, 1) := by decide +kernel
theorem dX1_freeAhead_98 : decode cX1_freeAhead 98 = .ok (.lcmp, 1) := by decide +kernel
theorem dX1_freeAhead_99 : decode cX1_freeAhead 99 = .ok (.ifCond .ne 6, 3) := by decide +kernel
theorem dX1_freeAhead_102 : decode cX1_freeAhead 102 = .ok (.iload 5, 2) := by decide +kernel
theorem dX1_freeAhead_104 : decode cX1_freeAhead 104 = .ok (.ireturn, 1) := by decide +kernel
theorem dX1_freeAhead_105 : decode cX1_freeAhead 105 = .ok (.iinc 5 1, 3) := by decide +kernel
theorem dX1_freeAhead_108 : decode cX1_freeAhead 108 = .ok (.iinc 6 1, 3) := by decide +kernel
theorem dX1_freeAhead_111 : decode cX1_freeAhead 111 = .ok (.goto (-84), 3) := by decide +kernel
theorem dX1_freeAhead_114 : decode cX1_freeAhead 114 = .ok (.iload 5, 2) := by decide +kernel
theorem dX1_freeAhead_116 : decode cX1_freeAhead 116 = .ok (.ireturn, 1) := by decide +kernel
theorem iw_X1_freeAhead_X1 : ∀ w ∈ u_ws RX1 TX1 6, w ∈ wsX1_freeAhead := by decide +kernel
theorem lk_X1_freeAhead_0 : Cond.fieldLink RX1 66 RX1 "ROW_STEPS" "[I" ∈ wsX1_freeAhead := by decide +kernel
theorem lk_X1_freeAhead_1 : Cond.fieldLink RX1 70 RX1 "COLUMN_STEPS" "[I" ∈ wsX1_freeAhead := by decide +kernel
theorem lk_X1_freeAhead_2 : Cond.fieldLink RX1 33 (TX1 1).1 (TX1 1).2.1 (TX1 1).2.2.1 ∈ wsX1_freeAhead := by decide +kernel
set_option maxRecDepth 100000 in
theorem r_X1_freeAhead_0 {X : Bn} (C : Cx X cX1_freeAhead 8 RX1 wsX1_freeAhead 1 21) (ad : Nat → Nat) (S : MS) (x1 : Int32) (x2 : Int32) (h : (((f_X7_within x2 (4 : Int32)) = true) → (At X 8 (cW X.E ad S) 27 [(0, .ref (ad 8)), (2, .int x2), (3, .int (x1 / 8)), (4, .int (irm x1 8)), (5, .int 0), (6, .int 1)] [])) ∧ ((f_X7_within x2 (4 : Int32)) = false → (Ends X (some .int) (some (.int 0)) (cW X.E ad S)))) : At X 8 (cW X.E ad S) 0 [(0, .ref (ad 8)), (1, .int x1), (2, .int x2)] [] := by
  refine at_iload_n C dX1_freeAhead_0 rfl (j := 2) rfl ?_
  refine at_iconst C dX1_freeAhead_1 (v := 4) rfl ?_
  refine at_cN0 C 2 (c_X7_within X.l X.D X.E X.a1 X.a2 x2 (4 : Int32)) ggX1_freeAhead_X7_within rfl (host := RX7) (by decide +kernel) (by decide +kernel) (by decide +kernel) (by decide +kernel) ⟨rfl, rfl⟩ rfl rfl rfl dX1_freeAhead_2 ?_
  refine at_ifB_ne C dX1_freeAhead_5 (tgt := 10) (by decide) (fun hc0 => ?_) (fun hc0 => ?_)
  · replace h := h.1 hc0
    refine at_iload_n C dX1_freeAhead_10 rfl (j := 1) rfl ?_
    refine at_bipush C dX1_freeAhead_11 (v := 8) rfl ?_
    refine at_idiv C dX1_freeAhead_13 (by decide) ?_
    refine at_istore_n C dX1_freeAhead_14 rfl (by decide) (lv' := [(3, .int (x1 / 8)), (0, .ref (ad 8)), (1, .int x1), (2, .int x2)]) rfl ?_
    refine at_iload_n C dX1_freeAhead_15 rfl (j := 2) rfl ?_
    refine at_bipush C dX1_freeAhead_16 (v := 8) rfl ?_
    refine at_irem C dX1_freeAhead_18 (by decide) ?_
    refine at_istore C dX1_freeAhead_19 (by decide) (lv' := [(4, .int (irm x1 8)), (3, .int (x1 / 8)), (0, .ref (ad 8)), (1, .int x1), (2, .int x2)]) rfl ?_
    refine at_iconst C dX1_freeAhead_21 (v := 0) rfl ?_
    refine at_istore C dX1_freeAhead_22 (by decide) (lv' := [(5, .int 0), (4, .int (irm x1 8)), (3, .int (x1 / 8)), (0, .ref (ad 8)), (1, .int x1), (2, .int x2)]) rfl ?_
    refine at_iconst C dX1_freeAhead_24 (v := 1) rfl ?_
    refine at_istore C dX1_freeAhead_25 (by decide) (lv' := [(6, .int 1), (5, .int 0), (4, .int (irm x1 8)), (3, .int (x1 / 8)), (0, .ref (ad 8)), (1, .int x1), (2, .int x2)]) rfl ?_
    refine at_lv [4, 6, 3, 2, 1, 0] rfl ?_
    exact h
  · replace h := h.2 hc0
    refine at_iconst C dX1_freeAhead_8 (v := 0) rfl ?_
    exact at_iret C dX1_freeAhead_9 h
set_option maxRecDepth 100000 in
theorem r_X1_freeAhead_27 {X : Bn} (C : Cx X cX1_freeAhead 8 RX1 wsX1_freeAhead 1 21) (ad : Nat → Nat) (S : MS) (x2 : Int32) (x3 : Int32) (x4 : Int32) (x5 : Int32) (x6 : Int32) (h : ((8 ≤ x6) → (Ends X (some .int) (some (.int x5)) (cW X.E ad S))) ∧ (¬ 8 ≤ x6 → ((vp_in x2 4) ∧ ((vp_in x2 4) ∧ ((((if (f_X7_within (x3 + (rowSt x2.toNatClampNeg)) (8 : Int32)) then (if (f_X7_within (x4 + (colSt x2.toNatClampNeg)) (8 : Int32)) then true else false) else false) = true) → ((((lush (S.2 1 0) ((8 * (x3 + (rowSt x2.toNatClampNeg))) + (x4 + (colSt x2.toNatClampNeg)))) &&& 1 = 0) → (Ends X (some .int) (some (.int x5)) (cW X.E ad S))) ∧ (¬ (lush (S.2 1 0) ((8 * (x3 + (rowSt x2.toNatClampNeg))) + (x4 + (colSt x2.toNatClampNeg)))) &&& 1 = 0 → (At X 8 (cW X.E ad S) 27 [(0, .ref (ad 8)), (2, .int x2), (3, .int (x3 + (rowSt x2.toNatClampNeg))), (4, .int (x4 + (colSt x2.toNatClampNeg))), (5, .int (x5 + 1)), (6, .int (x6 + 1))] [])))) ∧ ((if (f_X7_within (x3 + (rowSt x2.toNatClampNeg)) (8 : Int32)) then (if (f_X7_within (x4 + (colSt x2.toNatClampNeg)) (8 : Int32)) then true else false) else false) = false → (Ends X (some .int) (some (.int x5)) (cW X.E ad S)))))))) : At X 8 (cW X.E ad S) 27 [(0, .ref (ad 8)), (2, .int x2), (3, .int x3), (4, .int x4), (5, .int x5), (6, .int x6)] [] := by
  refine at_iload C dX1_freeAhead_27 (j := 5) rfl ?_
  refine at_bipush C dX1_freeAhead_29 (v := 8) rfl ?_
  refine at_icmp_ge C dX1_freeAhead_31 (tgt := 114) (by decide) (fun hc1 => ?_) (fun hc1 => ?_)
  · replace h := h.1 hc1
    refine at_iload C dX1_freeAhead_114 (j := 4) rfl ?_
    exact at_iret C dX1_freeAhead_116 h
  · replace h := h.2 hc1
    refine at_iload_n C dX1_freeAhead_34 rfl (j := 2) rfl ?_
    refine at_getsR C lk_X1_freeAhead_0 dX1_freeAhead_35 ?_
    refine at_iload_n C dX1_freeAhead_38 rfl (j := 1) rfl ?_
    refine at_sldR C h.1 dX1_freeAhead_39 ?_
    replace h := h.2
    refine at_iadd C dX1_freeAhead_40 ?_
    refine at_istore_n C dX1_freeAhead_41 rfl (by decide) (lv' := [(3, .int (x3 + (rowSt x2.toNatClampNeg))), (0, .ref (ad 8)), (2, .int x2), (4, .int x4), (5, .int x5), (6, .int x6)]) rfl ?_
    refine at_iload C dX1_freeAhead_42 (j := 3) rfl ?_
    refine at_getsC C lk_X1_freeAhead_1 dX1_freeAhead_44 ?_
    refine at_iload_n C dX1_freeAhead_47 rfl (j := 2) rfl ?_
    refine at_sldC C h.1 dX1_freeAhead_48 ?_
    replace h := h.2
    refine at_iadd C dX1_freeAhead_49 ?_
    refine at_istore C dX1_freeAhead_50 (by decide) (lv' := [(4, .int (x4 + (colSt x2.toNatClampNeg))), (3, .int (x3 + (rowSt x2.toNatClampNeg))), (0, .ref (ad 8)), (2, .int x2), (5, .int x5), (6, .int x6)]) rfl ?_
    refine at_iload_n C dX1_freeAhead_52 rfl (j := 1) rfl ?_
    refine at_bipush C dX1_freeAhead_53 (v := 8) rfl ?_
    refine at_cN0 C 2 (c_X7_within X.l X.D X.E X.a1 X.a2 (x3 + (rowSt x2.toNatClampNeg)) (8 : Int32)) ggX1_freeAhead_X7_within rfl (host := RX7) (by decide +kernel) (by decide +kernel) (by decide +kernel) (by decide +kernel) ⟨rfl, rfl⟩ rfl rfl rfl dX1_freeAhead_55 ?_
    have K : At X 8 (cW X.E ad S) 76 [(0, .ref (ad 8)), (2, .int x2), (3, .int (x3 + (rowSt x2.toNatClampNeg))), (4, .int (x4 + (colSt x2.toNatClampNeg))), (5, .int x5), (6, .int x6)] [.int (b2i (if (f_X7_within (x3 + (rowSt x2.toNatClampNeg)) (8 : Int32)) then (if (f_X7_within (x4 + (colSt x2.toNatClampNeg)) (8 : Int32)) then true else false) else false))] := by
      refine at_istore C dX1_freeAhead_76 (by decide) (lv' := [(7, .int (b2i (if (f_X7_within (x3 + (rowSt x2.toNatClampNeg)) (8 : Int32)) then (if (f_X7_within (x4 + (colSt x2.toNatClampNeg)) (8 : Int32)) then true else false) else false))), (0, .ref (ad 8)), (2, .int x2), (3, .int (x3 + (rowSt x2.toNatClampNeg))), (4, .int (x4 + (colSt x2.toNatClampNeg))), (5, .int x5), (6, .int x6)]) rfl ?_
      refine at_iload C dX1_freeAhead_78 (j := 0) rfl ?_
      refine at_ifB_eq C dX1_freeAhead_80 (tgt := 102) (by decide) (fun hc2 => ?_) (fun hc2 => ?_)
      · replace h := h.2 hc2
        refine at_iload C dX1_freeAhead_102 (j := 5) rfl ?_
        exact at_iret C dX1_freeAhead_104 h
      · replace h := h.1 hc2
        refine at_aload_n C dX1_freeAhead_83 rfl (j := 1) rfl ?_
        refine at_get C (K := RX1) (T := TX1) (N := 6) (ci := 1) (v := .long (S.2 1 0)) iw_X1_freeAhead_X1 8 cW_c8 rfl 1 (by decide) lk_X1_freeAhead_2 rfl dX1_freeAhead_84 ?_
        refine at_bipush C dX1_freeAhead_87 (v := 8) rfl ?_
        refine at_iload_n C dX1_freeAhead_89 rfl (j := 3) rfl ?_
        refine at_imul C dX1_freeAhead_90 ?_
        refine at_iload C dX1_freeAhead_91 (j := 4) rfl ?_
        refine at_iadd C dX1_freeAhead_93 ?_
        refine at_lushr C dX1_freeAhead_94 ?_
        refine at_lconst C dX1_freeAhead_95 (v := 1) rfl ?_
        refine at_land C dX1_freeAhead_96 ?_
        refine at_lconst C dX1_freeAhead_97 (v := 0) rfl ?_
        refine at_lif_ne C dX1_freeAhead_98 dX1_freeAhead_99 (tgt := 105) (by decide) (fun hc3 => ?_) (fun hc3 => ?_)
        · replace h := h.2 hc3
          refine at_iinc C dX1_freeAhead_105 (j := 5) (v := x5 + 1) rfl rfl (by decide) (lv' := [(5, .int (x5 + 1)), (7, .int (b2i (if (f_X7_within (x3 + (rowSt x2.toNatClampNeg)) (8 : Int32)) then (if (f_X7_within (x4 + (colSt x2.toNatClampNeg)) (8 : Int32)) then true else false) else false))), (0, .ref (ad 8)), (2, .int x2), (3, .int (x3 + (rowSt x2.toNatClampNeg))), (4, .int (x4 + (colSt x2.toNatClampNeg))), (6, .int x6)]) rfl ?_
          refine at_iinc C dX1_freeAhead_108 (j := 6) (v := x6 + 1) rfl rfl (by decide) (lv' := [(6, .int (x6 + 1)), (5, .int (x5 + 1)), (7, .int (b2i (if (f_X7_within (x3 + (rowSt x2.toNatClampNeg)) (8 : Int32)) then (if (f_X7_within (x4 + (colSt x2.toNatClampNeg)) (8 : Int32)) then true else false) else false))), (0, .ref (ad 8)), (2, .int x2), (3, .int (x3 + (rowSt x2.toNatClampNeg))), (4, .int (x4 + (colSt x2.toNatClampNeg)))]) rfl ?_
          refine at_goto C dX1_freeAhead_111 (tgt := 27) (by decide) ?_
          refine at_lv [3, 4, 5, 6, 1, 0] rfl ?_
          exact h
        · replace h := h.1 hc3
          refine at_iload C dX1_freeAhead_102 (j := 5) rfl ?_
          exact at_iret C dX1_freeAhead_104 h
    refine at_ifB_eq C dX1_freeAhead_58 (tgt := 75) (by decide) (fun hc2 => ?_) (fun hc2 => ?_)
    · skip
      refine at_iconst C dX1_freeAhead_75 (v := 0) rfl ?_
      refine at_lv [2, 3, 1, 0, 4, 5] rfl ?_
      first | (simp only [if_neg (show ¬ (f_X7_within (x3 + (rowSt x2.toNatClampNeg)) (8 : Int32)) = true by rw [hc2]; decide)] at K; exact K) | exact K
    · skip
      refine at_iload C dX1_freeAhead_61 (j := 0) rfl ?_
      refine at_bipush C dX1_freeAhead_63 (v := 8) rfl ?_
      refine at_cN0 C 2 (c_X7_within X.l X.D X.E X.a1 X.a2 (x4 + (colSt x2.toNatClampNeg)) (8 : Int32)) ggX1_freeAhead_X7_within rfl (host := RX7) (by decide +kernel) (by decide +kernel) (by decide +kernel) (by decide +kernel) ⟨rfl, rfl⟩ rfl rfl rfl dX1_freeAhead_65 ?_
      refine at_ifB_eq C dX1_freeAhead_68 (tgt := 75) (by decide) (fun hc3 => ?_) (fun hc3 => ?_)
      · skip
        refine at_iconst C dX1_freeAhead_75 (v := 0) rfl ?_
        refine at_lv [2, 3, 1, 0, 4, 5] rfl ?_
        first | (simp only [if_pos hc2, if_neg (show ¬ (f_X7_within (x4 + (colSt x2.toNatClampNeg)) (8 : Int32)) = true by rw [hc3]; decide)] at K; exact K) | exact K
      · skip
        refine at_iconst C dX1_freeAhead_71 (v := 1) rfl ?_
        refine at_goto C dX1_freeAhead_72 (tgt := 76) (by decide) ?_
        refine at_lv [2, 3, 1, 0, 4, 5] rfl ?_
        first | (simp only [if_pos hc2, if_pos hc3] at K; exact K) | exact K
theorem m1_nI : ∀ r, r < 8 → 0 < r → nI r + (-1) = nI (r - 1) := by decide
theorem p1_nI : ∀ r, r < 8 → nI r + 1 = nI (r + 1) := by decide
theorem wi_m : f_X7_within (nI 0 + (-1)) 8 = false := by decide
theorem wi_8 : f_X7_within (nI 7 + 1) 8 = false := by decide
theorem wi_y : ∀ r, r < 8 → f_X7_within (nI r) 8 = true := by decide
/-- one step along a way -/
theorem stepW {way r k : Nat} (hw : way < 4) (hr : r < 8) (hk : k < 8) :
    (∃ r' k', r' < 8 ∧ k' < 8 ∧ nI r + rowSt way = nI r' ∧ nI k + colSt way = nI k' ∧ ∀ fr : Nat → Bool, besN fr (8 * r + k) way = if fr (8 * r' + k') = true then some (8 * r' + k') else none) ∨
    ((f_X7_within (nI r + rowSt way) 8 = false ∨ f_X7_within (nI k + colSt way) 8 = false) ∧ ∀ fr : Nat → Bool, besN fr (8 * r + k) way = none) := by
  have z : ∀ a : Nat, nI a + 0 = nI a := fun a => Int32.add_zero _
  rcases (show way = 0 ∨ way = 1 ∨ way = 2 ∨ way = 3 by omega) with rfl | rfl | rfl | rfl
  · by_cases h : 0 < r
    · refine Or.inl ⟨r - 1, k, by omega, hk, m1_nI r hr h, z k, fun fr => ?_⟩
      show (if 8 ≤ 8 * r + k ∧ fr (8 * r + k - 8) = true then some (8 * r + k - 8) else none) = _
      rw [show 8 * r + k - 8 = 8 * (r - 1) + k by omega]
      simp only [show (8 ≤ 8 * r + k) = True from eq_true (by omega), true_and]
    · have : r = 0 := by omega
      subst this
      refine Or.inr ⟨Or.inl wi_m, fun fr => ?_⟩
      show (if 8 ≤ 8 * 0 + k ∧ fr (8 * 0 + k - 8) = true then some (8 * 0 + k - 8) else none) = _
      rw [if_neg (fun q => by omega)]
  · by_cases h : k < 7
    · refine Or.inl ⟨r, k + 1, hr, by omega, z r, p1_nI k hk, fun fr => ?_⟩
      show (if (8 * r + k) % 8 < 7 ∧ fr (8 * r + k + 1) = true then some (8 * r + k + 1) else none) = _
      rw [show 8 * r + k + 1 = 8 * r + (k + 1) by omega]
      simp only [show ((8 * r + k) % 8 < 7) = True from eq_true (by omega), true_and]
    · have : k = 7 := by omega
      subst this
      refine Or.inr ⟨Or.inr wi_8, fun fr => ?_⟩
      show (if (8 * r + 7) % 8 < 7 ∧ fr (8 * r + 7 + 1) = true then some (8 * r + 7 + 1) else none) = _
      rw [if_neg (fun q => by omega)]
  · by_cases h : r < 7
    · refine Or.inl ⟨r + 1, k, by omega, hk, p1_nI r hr, z k, fun fr => ?_⟩
      show (if 8 * r + k < 56 ∧ fr (8 * r + k + 8) = true then some (8 * r + k + 8) else none) = _
      rw [show 8 * r + k + 8 = 8 * (r + 1) + k by omega]
      simp only [show (8 * r + k < 56) = True from eq_true (by omega), true_and]
    · have : r = 7 := by omega
      subst this
      refine Or.inr ⟨Or.inl wi_8, fun fr => ?_⟩
      show (if 8 * 7 + k < 56 ∧ fr (8 * 7 + k + 8) = true then some (8 * 7 + k + 8) else none) = _
      rw [if_neg (fun q => by omega)]
  · by_cases h : 0 < k
    · refine Or.inl ⟨r, k - 1, hr, by omega, z r, m1_nI k hk h, fun fr => ?_⟩
      show (if 0 < (8 * r + k) % 8 ∧ fr (8 * r + k - 1) = true then some (8 * r + k - 1) else none) = _
      rw [show 8 * r + k - 1 = 8 * r + (k - 1) by omega]
      simp only [show (0 < (8 * r + k) % 8) = True from eq_true (by omega), true_and]
    · have : k = 0 := by omega
      subst this
      refine Or.inr ⟨Or.inr wi_m, fun fr => ?_⟩
      show (if 0 < (8 * r + 0) % 8 ∧ fr (8 * r + 0 - 1) = true then some (8 * r + 0 - 1) else none) = _
      rw [if_neg (fun q => by omega)]
def frC (S : MS) : Nat → Bool := tbL (S.2 1 0)
def f_X1_freeAhead (S : MS) (x1 x2 : Int32) : Int32 := nI (echoN (frC S) x1.toNatClampNeg x2.toNatClampNeg)
def p_X1_freeAhead (x1 x2 : Int32) : Prop := p_X8_echo x1 x2
theorem has0_tb {x : Int64} {c : Nat} (hc : c < 64) : (lush x (nI c) &&& 1 = 0) ↔ tbL x c = false := by
  constructor
  · intro h
    have := congrArg (fun z => tbL z 0) h
    simp only [tbL_and, tbL_shr hc, tbL_1, tbL_0] at this
    simpa using this
  · intro h
    refine tbL_ext (fun d _ => ?_)
    rw [tbL_and, tbL_shr hc, tbL_1, tbL_0]
    by_cases q : d = 0
    · subst q; simp [h]
    · simp [q]
set_option maxRecDepth 100000 in
theorem c_X1_freeAhead (l : Launch) (D : va_G) (E : Nat → ClassId) (a1 a2 : Nat) (ad : Nat → Nat) (S : MS) (x1 x2 : Int32) (hp : p_X1_freeAhead x1 x2) : Fn l D E a1 a2 yX1_freeAhead wsX1_freeAhead 1 21 [.ref (ad 8), .int x1, .int x2] (cW E ad S) (some (.int (f_X1_freeAhead S x1 x2))) (cW E ad S) := by
  refine Fn.of (cc := cX1_freeAhead) (maxL := 8) (ret := (some .int)) (own := RX1) (by decide) rfl rfl (sameC _ _ _ _) (Nat.le_of_ble_eq_true rfl) (fun X h1 h2 h3 h4 h5 C hE => ?_)
  subst h1 h2 h3 h4 h5
  obtain ⟨c, way, hc, hw, rfl, rfl⟩ := hp
  have cw : (nI way).toNatClampNeg = way := nI_clamp (by omega)
  rw [f_X1_freeAhead, cw, nI_clamp (show c < 2 ^ 31 by omega)] at hE
  have v4 : vp_in (nI way) 4 := vp_in_nI hw (by decide)
  have loop : ∀ (f m r k : Nat), m + f = 7 → r < 8 → k < 8 → roomW (8 * r + k) way ≤ f → m + echoN (frC S) (8 * r + k) way = echoN (frC S) c way → At X 8 (cW X.E ad S) 27 [(0, .ref (ad 8)), (2, .int (nI way)), (3, .int (nI r)), (4, .int (nI k)), (5, .int (nI m)), (6, .int (nI (m + 1)))] [] := by
    intro f
    induction f with
    | zero =>
      intro m r k hm hr hk hroom e
      have : m = 7 := by omega
      subst this
      have h0 : echoN (frC S) (8 * r + k) way = 0 := by
        rw [echo_bes (by omega)]
        cases e2 : besN (frC S) (8 * r + k) way with
        | none => rfl
        | some d => have := (bes_some (by omega) e2).2.2; omega
      rw [← e, h0] at hE
      exact r_X1_freeAhead_27 C ad S _ _ _ _ (nI 8) ⟨fun _ => hE, fun q => nle_no q⟩
    | succ f ih =>
      intro m r k hm hr hk hroom e
      refine r_X1_freeAhead_27 C ad S _ _ _ _ (nI (m + 1)) ⟨fun q => nlt_no (a := m + 1) (b := 8) (by decide) (by omega) q, fun _ => ⟨v4, v4, ?_⟩⟩
      rw [cw]
      have h8 : (8 : Int32) = nI 8 := rfl
      rcases stepW hw hr hk with ⟨r', k', hr', hk', er, ek, hb⟩ | ⟨hno, hb⟩
      · rw [er, ek, wi_y r' hr', wi_y k' hk']
        have e8 : (8 : Int32) * nI r' + nI k' = nI (8 * r' + k') := by rw [h8, pk_mul, nI_add]
        rw [e8]
        refine ⟨fun _ => ⟨fun q => ?_, fun q => ?_⟩, fun q => (by cases q)⟩
        · have hf : frC S (8 * r' + k') = false := (has0_tb (by omega)).mp q
          have h0 : echoN (frC S) (8 * r + k) way = 0 := by rw [echo_bes (by omega), hb, hf]; rfl
          rw [← e, h0] at hE; exact hE
        · have hf : frC S (8 * r' + k') = true := by
            cases e3 : frC S (8 * r' + k') with
            | true => rfl
            | false => exact absurd ((has0_tb (by omega)).mpr e3) q
          have hbs : besN (frC S) (8 * r + k) way = some (8 * r' + k') := by rw [hb, if_pos hf]
          have h1 : echoN (frC S) (8 * r + k) way = echoN (frC S) (8 * r' + k') way + 1 := by rw [echo_bes (by omega), hbs]
          have h2 := (bes_some (by omega) hbs).2.2
          rw [nI_1, nI_1]
          exact ih (m + 1) r' k' (by omega) hr' hk' (by omega) (by omega)
      · have h0 : echoN (frC S) (8 * r + k) way = 0 := by rw [echo_bes (by omega), hb]
        rw [← e, h0] at hE
        refine ⟨fun q => ?_, fun _ => hE⟩
        rcases hno with h | h
        · rw [h] at q; exact absurd q (by simp)
        · rw [h] at q
          exact absurd q (by cases f_X7_within (nI r + rowSt way) 8 <;> decide)
  refine r_X1_freeAhead_0 C ad S (nI c) (nI way) ⟨fun _ => ?_, fun q => absurd q (by rw [show (4 : Int32) = nI 4 from rfl, within_y (by decide) hw]; decide)⟩
  rw [show (8 : Int32) = nI 8 from rfl, show nI c / nI 8 = nI (c / 8) from pk_div (by omega) (by decide) (by decide), irm_nI (by omega) (by decide) (by decide)]
  have e8 : 8 * (c / 8) + c % 8 = c := by omega
  exact loop 7 0 (c / 8) (c % 8) rfl (by omega) (by omega) (by rw [e8]; exact roomW_le hc) (by rw [e8, Nat.zero_add])
set_option maxRecDepth 20000 in
theorem ggX1_echoesWell_X1_freeAhead : GoodIn wsX1_echoesWell wsX1_freeAhead := goodIn_r _ [5, 6, 7, 8, 9, 10, 11, 12, 13, 14, 15, 16, 17] (by decide +kernel) (by decide +kernel)
set_option maxRecDepth 20000 in
theorem gX1_echoesWell_X1_freeAhead : GoodIn wsX1_echoesWell (wsV RX1 73 RX1 yX1_freeAhead wsX1_freeAhead) := goodIn_app (goodIn_of _ (by decide +kernel)) ggX1_echoesWell_X1_freeAhead
theorem dX1_echoesWell_0 : decode cX1_echoesWell 0 = .ok (.iload_n 3, 1) := by decide +kernel
theorem dX1_echoesWell_1 : decode cX1_echoesWell 1 = .ok (.iconst (-1), 1) := by decide +kernel
theorem dX1_echoesWell_2 : decode cX1_echoesWell 2 = .ok (.if_icmp .eq 13, 3) := by decide +kernel
theorem dX1_echoesWell_5 : decode cX1_echoesWell 5 = .ok (.iload_n 3, 1) := by decide +kernel
theorem dX1_echoesWell_6 : decode cX1_echoesWell 6 = .ok (.aload_n 0, 1) := by decide +kernel
theorem dX1_echoesWell_7 : decode cX1_echoesWell 7 = .ok (.iload_n 1, 1) := by decide +kernel
theorem dX1_echoesWell_8 : decode cX1_echoesWell 8 = .ok (.iload_n 2, 1) := by decide +kernel
theorem dX1_echoesWell_9 : decode cX1_echoesWell 9 = .ok (.invokevirtual 73, 3) := by decide +kernel
theorem dX1_echoesWell_12 : decode cX1_echoesWell 12 = .ok (.if_icmp .ne 7, 3) := by decide +kernel
theorem dX1_echoesWell_15 : decode cX1_echoesWell 15 = .ok (.iconst 1, 1) := by decide +kernel
theorem dX1_echoesWell_16 : decode cX1_echoesWell 16 = .ok (.goto 4, 3) := by decide +kernel
theorem dX1_echoesWell_19 : decode cX1_echoesWell 19 = .ok (.iconst 0, 1) := by decide +kernel
theorem dX1_echoesWell_20 : decode cX1_echoesWell 20 = .ok (.ireturn, 1) := by decide +kernel
set_option maxRecDepth 100000 in
theorem r_X1_echoesWell_0 {X : Bn} (C : Cx X cX1_echoesWell 4 RX1 wsX1_echoesWell 2 48) (ad : Nat → Nat) (S : MS) (x1 : Int32) (x2 : Int32) (x3 : Int32) (h : (((¬ x3 = (-1)) → (p_X1_freeAhead x1 x2))) ∧ (Ends X (some .boolean) (some (.int (b2i (if x3 = (-1) then true else (if x3 = f_X1_freeAhead S x1 x2 then true else false))))) (cW X.E ad S))) : At X 4 (cW X.E ad S) 0 [(0, .ref (ad 8)), (1, .int x1), (2, .int x2), (3, .int x3)] [] := by
  refine at_iload_n C dX1_echoesWell_0 rfl (j := 3) rfl ?_
  refine at_iconst C dX1_echoesWell_1 (v := (-1)) rfl ?_
  have hq := h.1
  replace h := h.2
  have K : At X 4 (cW X.E ad S) 20 [] [.int (b2i (if x3 = (-1) then true else (if x3 = f_X1_freeAhead S x1 x2 then true else false)))] := by
    exact at_zret C dX1_echoesWell_20 (b2i_nar _) h
  replace h := hq
  refine at_icmp_eq C dX1_echoesWell_2 (tgt := 15) (by decide) (fun hc0 => ?_) (fun hc0 => ?_)
  · skip
    refine at_iconst C dX1_echoesWell_15 (v := 1) rfl ?_
    refine at_goto C dX1_echoesWell_16 (tgt := 20) (by decide) ?_
    refine at_lv [] rfl ?_
    first | (simp only [if_pos hc0] at K; exact K) | exact K
  · replace h := h hc0
    refine at_iload_n C dX1_echoesWell_5 rfl (j := 3) rfl ?_
    refine at_aload_n C dX1_echoesWell_6 rfl (j := 0) rfl ?_
    refine at_iload_n C dX1_echoesWell_7 rfl (j := 1) rfl ?_
    refine at_iload_n C dX1_echoesWell_8 rfl (j := 2) rfl ?_
    refine at_cV1 C 2 (c_X1_freeAhead X.l X.D X.E X.a1 X.a2 ad S x1 x2 h) gX1_echoesWell_X1_freeAhead rfl (by decide +kernel) ⟨rfl, rfl⟩ rfl rfl rfl 8 cW_c8 rfl dX1_echoesWell_9 ?_
    refine at_icmp_ne C dX1_echoesWell_12 (tgt := 19) (by decide) (fun hc1 => ?_) (fun hc1 => ?_)
    · skip
      refine at_iconst C dX1_echoesWell_19 (v := 0) rfl ?_
      refine at_lv [] rfl ?_
      first | (simp only [if_neg hc0, if_neg hc1] at K; exact K) | exact K
    · skip
      refine at_iconst C dX1_echoesWell_15 (v := 1) rfl ?_
      refine at_goto C dX1_echoesWell_16 (tgt := 20) (by decide) ?_
      refine at_lv [] rfl ?_
      first | (simp only [if_neg hc0, if_pos hc1] at K; exact K) | exact K
def f_X1_echoesWell (S : MS) (x1 : Int32) (x2 : Int32) (x3 : Int32) : Bool := (if x3 = (-1) then true else (if x3 = f_X1_freeAhead S x1 x2 then true else false))
def p_X1_echoesWell (S : MS) (x1 : Int32) (x2 : Int32) (x3 : Int32) : Prop := (((¬ x3 = (-1)) → (p_X1_freeAhead x1 x2)))
set_option maxRecDepth 100000 in
theorem c_X1_echoesWell (l : Launch) (D : va_G) (E : Nat → ClassId) (a1 a2 : Nat) (ad : Nat → Nat) (S : MS) (x1 : Int32) (x2 : Int32) (x3 : Int32) (hp : p_X1_echoesWell S x1 x2 x3) : Fn l D E a1 a2 yX1_echoesWell wsX1_echoesWell 2 48 [.ref (ad 8), .int x1, .int x2, .int x3] (cW E ad S) (some (.int (b2i (f_X1_echoesWell S x1 x2 x3)))) (cW E ad S) := by
  refine Fn.of (cc := cX1_echoesWell) (maxL := 4) (ret := (some .boolean)) (own := RX1) (by decide) rfl rfl rfl (Nat.le_of_ble_eq_true rfl) (fun X h1 h2 h3 h4 h5 C hE => ?_)
  subst h1 h2 h3 h4 h5
  refine r_X1_echoesWell_0 C ad S x1 x2 x3 ?_
  refine ⟨hp, ?_⟩
  simp only [f_X1_echoesWell, b2i_t, b2i_f] at hE
  exact hE
set_option maxRecDepth 20000 in
theorem ggX1_viewFrom_X1_freeAhead : GoodIn wsX1_viewFrom wsX1_freeAhead := goodIn_r _ [7, 1, 2, 8, 9, 10, 11, 12, 13, 14, 15, 16, 17] (by decide +kernel) (by decide +kernel)
set_option maxRecDepth 20000 in
theorem gX1_viewFrom_X1_freeAhead : GoodIn wsX1_viewFrom (wsV RX1 73 RX1 yX1_freeAhead wsX1_freeAhead) := goodIn_app (goodIn_of _ (by decide +kernel)) ggX1_viewFrom_X1_freeAhead
theorem dX1_viewFrom_0 : decode cX1_viewFrom 0 = .ok (.lconst 1, 1) := by decide +kernel
theorem dX1_viewFrom_1 : decode cX1_viewFrom 1 = .ok (.iload_n 1, 1) := by decide +kernel
theorem dX1_viewFrom_2 : decode cX1_viewFrom 2 = .ok (.lshl, 1) := by decide +kernel
theorem dX1_viewFrom_3 : decode cX1_viewFrom 3 = .ok (.lstore_n 2, 1) := by decide +kernel
theorem dX1_viewFrom_4 : decode cX1_viewFrom 4 = .ok (.iconst 0, 1) := by decide +kernel
theorem dX1_viewFrom_5 : decode cX1_viewFrom 5 = .ok (.istore 4, 2) := by decide +kernel
theorem dX1_viewFrom_7 : decode cX1_viewFrom 7 = .ok (.iload 4, 2) := by decide +kernel
theorem dX1_viewFrom_9 : decode cX1_viewFrom 9 = .ok (.iconst 4, 1) := by decide +kernel
theorem dX1_viewFrom_10 : decode cX1_viewFrom 10 = .ok (.if_icmp .ge 64, 3) := by decide +kernel
theorem dX1_viewFrom_13 : decode cX1_viewFrom 13 = .ok (.bipush 8, 2) := by decide +kernel
theorem dX1_viewFrom_15 : decode cX1_viewFrom 15 = .ok (.getstatic 66, 3) := by decide +kernel
theorem dX1_viewFrom_18 : decode cX1_viewFrom 18 = .ok (.iload 4, 2) := by decide +kernel
theorem dX1_viewFrom_20 : decode cX1_viewFrom 20 = .ok (.iaload, 1) := by decide +kernel
theorem dX1_viewFrom_21 : decode cX1_viewFrom 21 = .ok (.imul, 1) := by decide +kernel
theorem dX1_viewFrom_22 : decode cX1_viewFrom 22 = .ok (.getstatic 70, 3) := by decide +kernel
theorem dX1_viewFrom_25 : decode cX1_viewFrom 25 = .ok (.iload 4, 2) := by decide +kernel
theorem dX1_viewFrom_27 : decode cX1_viewFrom 27 = .ok (.iaload, 1) := by decide +kernel
theorem dX1_viewFrom_28 : decode cX1_viewFrom 28 = .ok (.iadd, 1) := by decide +kernel
theorem dX1_viewFrom_29 : decode cX1_viewFrom 29 = .ok (.istore 5, 2) := by decide +kernel
theorem dX1_viewFrom_31 : decode cX1_viewFrom 31 = .ok (.aload_n 0, 1) := by decide +kernel
theorem dX1_viewFrom_32 : decode cX1_viewFrom 32 = .ok (.iload_n 1, 1) := by decide +kernel
theorem dX1_viewFrom_33 : decode cX1_viewFrom 33 = .ok (.iload 4, 2) := by decide +kernel
theorem dX1_viewFrom_35 : decode cX1_viewFrom 35 = .ok (.invokevirtual 73, 3) := by decide +kernel
theorem dX1_viewFrom_38 : decode cX1_viewFrom 38 = .ok (.istore 6, 2) := by decide +kernel
theorem dX1_viewFrom_40 : decode cX1_viewFrom 40 = .ok (.iconst 1, 1) := by decide +kernel
theorem dX1_viewFrom_41 : decode cX1_viewFrom 41 = .ok (.istore 7, 2) := by decide +kernel
theorem dX1_viewFrom_43 : decode cX1_viewFrom 43 = .ok (.iload 7, 2) := by decide +kernel
theorem dX1_viewFrom_45 : decode cX1_viewFrom 45 = .ok (.iload 6, 2) := by decide +kernel
theorem dX1_viewFrom_47 : decode cX1_viewFrom 47 = .ok (.if_icmp .gt 21, 3) := by decide +kernel
theorem dX1_viewFrom_50 : decode cX1_viewFrom 50 = .ok (.lload_n 2, 1) := by decide +kernel
theorem dX1_viewFrom_51 : decode cX1_viewFrom 51 = .ok (.lconst 1, 1) := by decide +kernel
theorem dX1_viewFrom_52 : decode cX1_viewFrom 52 = .ok (.iload_n 1, 1) := by decide +kernel
theorem dX1_viewFrom_53 : decode cX1_viewFrom 53 = .ok (.iload 7, 2) := by decide +kernel
theorem dX1_viewFrom_55 : decode cX1_viewFrom 55 = .ok (.iload 5, 2) := by decide +kernel
theorem dX1_viewFrom_57 : decode cX1_viewFrom 57 = .ok (.imul, 1) := by decide +kernel
theorem dX1_viewFrom_58 : decode cX1_viewFrom 58 = .ok (.iadd, 1) := by decide +kernel
theorem dX1_viewFrom_59 : decode cX1_viewFrom 59 = .ok (.lshl, 1) := by decide +kernel
theorem dX1_viewFrom_60 : decode cX1_viewFrom 60 = .ok (.lor, 1) := by decide +kernel
theorem dX1_viewFrom_61 : decode cX1_viewFrom 61 = .ok (.lstore_n 2, 1) := by decide +kernel
theorem dX1_viewFrom_62 : decode cX1_viewFrom 62 = .ok (.iinc 7 1, 3) := by decide +kernel
theorem dX1_viewFrom_65 : decode cX1_viewFrom 65 = .ok (.goto (-22), 3) := by decide +kernel
theorem dX1_viewFrom_68 : decode cX1_viewFrom 68 = .ok (.iinc 4 1, 3) := by decide +kernel
theorem dX1_viewFrom_71 : decode cX1_viewFrom 71 = .ok (.goto (-64), 3) := by decide +kernel
theorem dX1_viewFrom_74 : decode cX1_viewFrom 74 = .ok (.lload_n 2, 1) := by decide +kernel
theorem dX1_viewFrom_75 : decode cX1_viewFrom 75 = .ok (.lreturn, 1) := by decide +kernel
theorem lk_X1_viewFrom_0 : Cond.fieldLink RX1 66 RX1 "ROW_STEPS" "[I" ∈ wsX1_viewFrom := by decide +kernel
theorem lk_X1_viewFrom_1 : Cond.fieldLink RX1 70 RX1 "COLUMN_STEPS" "[I" ∈ wsX1_viewFrom := by decide +kernel
set_option maxRecDepth 100000 in
theorem r_X1_viewFrom_0 {X : Bn} (C : Cx X cX1_viewFrom 8 RX1 wsX1_viewFrom 2 48) (ad : Nat → Nat) (S : MS) (x1 : Int32) (h : At X 8 (cW X.E ad S) 7 [(0, .ref (ad 8)), (1, .int x1), (2, .long (lshl 1 x1)), (4, .int 0)] []) : At X 8 (cW X.E ad S) 0 [(0, .ref (ad 8)), (1, .int x1)] [] := by
  refine at_lconst C dX1_viewFrom_0 (v := 1) rfl ?_
  refine at_iload_n C dX1_viewFrom_1 rfl (j := 1) rfl ?_
  refine at_lshl C dX1_viewFrom_2 ?_
  refine at_lstore_n C dX1_viewFrom_3 rfl (by decide) (lv' := [(2, .long (lshl 1 x1)), (0, .ref (ad 8)), (1, .int x1)]) rfl ?_
  refine at_iconst C dX1_viewFrom_4 (v := 0) rfl ?_
  refine at_istore C dX1_viewFrom_5 (by decide) (lv' := [(4, .int 0), (2, .long (lshl 1 x1)), (0, .ref (ad 8)), (1, .int x1)]) rfl ?_
  refine at_lv [2, 3, 1, 0] rfl ?_
  exact h
set_option maxRecDepth 100000 in
theorem r_X1_viewFrom_7 {X : Bn} (C : Cx X cX1_viewFrom 8 RX1 wsX1_viewFrom 2 48) (ad : Nat → Nat) (S : MS) (x1 : Int32) (x2 : Int64) (x4 : Int32) (h : ((4 ≤ x4) → (Ends X (some .long) (some (.long x2)) (cW X.E ad S))) ∧ (¬ 4 ≤ x4 → ((vp_in x4 4) ∧ ((vp_in x4 4) ∧ ((p_X1_freeAhead x1 x4) ∧ (At X 8 (cW X.E ad S) 43 [(0, .ref (ad 8)), (1, .int x1), (2, .long x2), (4, .int x4), (5, .int ((8 * (rowSt x4.toNatClampNeg)) + (colSt x4.toNatClampNeg))), (6, .int (f_X1_freeAhead S x1 x4)), (7, .int 1)] [])))))) : At X 8 (cW X.E ad S) 7 [(0, .ref (ad 8)), (1, .int x1), (2, .long x2), (4, .int x4)] [] := by
  refine at_iload C dX1_viewFrom_7 (j := 3) rfl ?_
  refine at_iconst C dX1_viewFrom_9 (v := 4) rfl ?_
  refine at_icmp_ge C dX1_viewFrom_10 (tgt := 74) (by decide) (fun hc0 => ?_) (fun hc0 => ?_)
  · replace h := h.1 hc0
    refine at_lload_n C dX1_viewFrom_74 rfl (j := 2) rfl ?_
    exact at_lret C dX1_viewFrom_75 h
  · replace h := h.2 hc0
    refine at_bipush C dX1_viewFrom_13 (v := 8) rfl ?_
    refine at_getsR C lk_X1_viewFrom_0 dX1_viewFrom_15 ?_
    refine at_iload C dX1_viewFrom_18 (j := 3) rfl ?_
    refine at_sldR C h.1 dX1_viewFrom_20 ?_
    replace h := h.2
    refine at_imul C dX1_viewFrom_21 ?_
    refine at_getsC C lk_X1_viewFrom_1 dX1_viewFrom_22 ?_
    refine at_iload C dX1_viewFrom_25 (j := 3) rfl ?_
    refine at_sldC C h.1 dX1_viewFrom_27 ?_
    replace h := h.2
    refine at_iadd C dX1_viewFrom_28 ?_
    refine at_istore C dX1_viewFrom_29 (by decide) (lv' := [(5, .int ((8 * (rowSt x4.toNatClampNeg)) + (colSt x4.toNatClampNeg))), (0, .ref (ad 8)), (1, .int x1), (2, .long x2), (4, .int x4)]) rfl ?_
    refine at_aload_n C dX1_viewFrom_31 rfl (j := 1) rfl ?_
    refine at_iload_n C dX1_viewFrom_32 rfl (j := 2) rfl ?_
    refine at_iload C dX1_viewFrom_33 (j := 4) rfl ?_
    refine at_cV1 C 2 (c_X1_freeAhead X.l X.D X.E X.a1 X.a2 ad S x1 x4 h.1) gX1_viewFrom_X1_freeAhead rfl (by decide +kernel) ⟨rfl, rfl⟩ rfl rfl rfl 8 cW_c8 rfl dX1_viewFrom_35 ?_
    replace h := h.2
    refine at_istore C dX1_viewFrom_38 (by decide) (lv' := [(6, .int (f_X1_freeAhead S x1 x4)), (5, .int ((8 * (rowSt x4.toNatClampNeg)) + (colSt x4.toNatClampNeg))), (0, .ref (ad 8)), (1, .int x1), (2, .long x2), (4, .int x4)]) rfl ?_
    refine at_iconst C dX1_viewFrom_40 (v := 1) rfl ?_
    refine at_istore C dX1_viewFrom_41 (by decide) (lv' := [(7, .int 1), (6, .int (f_X1_freeAhead S x1 x4)), (5, .int ((8 * (rowSt x4.toNatClampNeg)) + (colSt x4.toNatClampNeg))), (0, .ref (ad 8)), (1, .int x1), (2, .long x2), (4, .int x4)]) rfl ?_
    refine at_lv [3, 4, 5, 6, 2, 1, 0] rfl ?_
    exact h
set_option maxRecDepth 100000 in
theorem r_X1_viewFrom_43 {X : Bn} (C : Cx X cX1_viewFrom 8 RX1 wsX1_viewFrom 2 48) (ad : Nat → Nat) (S : MS) (x1 : Int32) (x2 : Int64) (x4 : Int32) (x5 : Int32) (x6 : Int32) (x7 : Int32) (h : ((x6 < x7) → (At X 8 (cW X.E ad S) 7 [(0, .ref (ad 8)), (1, .int x1), (2, .long x2), (4, .int (x4 + 1))] [])) ∧ (¬ x6 < x7 → (At X 8 (cW X.E ad S) 43 [(0, .ref (ad 8)), (1, .int x1), (2, .long (x2 ||| (lshl 1 (x1 + (x7 * x5))))), (4, .int x4), (5, .int x5), (6, .int x6), (7, .int (x7 + 1))] []))) : At X 8 (cW X.E ad S) 43 [(0, .ref (ad 8)), (1, .int x1), (2, .long x2), (4, .int x4), (5, .int x5), (6, .int x6), (7, .int x7)] [] := by
  refine at_iload C dX1_viewFrom_43 (j := 6) rfl ?_
  refine at_iload C dX1_viewFrom_45 (j := 5) rfl ?_
  refine at_icmp_gt C dX1_viewFrom_47 (tgt := 68) (by decide) (fun hc1 => ?_) (fun hc1 => ?_)
  · replace h := h.1 hc1
    refine at_iinc C dX1_viewFrom_68 (j := 3) (v := x4 + 1) rfl rfl (by decide) (lv' := [(4, .int (x4 + 1)), (0, .ref (ad 8)), (1, .int x1), (2, .long x2), (5, .int x5), (6, .int x6), (7, .int x7)]) rfl ?_
    refine at_goto C dX1_viewFrom_71 (tgt := 7) (by decide) ?_
    refine at_lv [1, 2, 3, 0] rfl ?_
    exact h
  · replace h := h.2 hc1
    refine at_lload_n C dX1_viewFrom_50 rfl (j := 2) rfl ?_
    refine at_lconst C dX1_viewFrom_51 (v := 1) rfl ?_
    refine at_iload_n C dX1_viewFrom_52 rfl (j := 1) rfl ?_
    refine at_iload C dX1_viewFrom_53 (j := 6) rfl ?_
    refine at_iload C dX1_viewFrom_55 (j := 4) rfl ?_
    refine at_imul C dX1_viewFrom_57 ?_
    refine at_iadd C dX1_viewFrom_58 ?_
    refine at_lshl C dX1_viewFrom_59 ?_
    refine at_lor C dX1_viewFrom_60 ?_
    refine at_lstore_n C dX1_viewFrom_61 rfl (by decide) (lv' := [(2, .long (x2 ||| (lshl 1 (x1 + (x7 * x5))))), (0, .ref (ad 8)), (1, .int x1), (4, .int x4), (5, .int x5), (6, .int x6), (7, .int x7)]) rfl ?_
    refine at_iinc C dX1_viewFrom_62 (j := 6) (v := x7 + 1) rfl rfl (by decide) (lv' := [(7, .int (x7 + 1)), (2, .long (x2 ||| (lshl 1 (x1 + (x7 * x5))))), (0, .ref (ad 8)), (1, .int x1), (4, .int x4), (5, .int x5), (6, .int x6)]) rfl ?_
    refine at_goto C dX1_viewFrom_65 (tgt := 43) (by decide) ?_
    refine at_lv [2, 3, 1, 4, 5, 6, 0] rfl ?_
    exact h
/-- the cell so many steps along a way -/
def rayN (c : Nat) : Nat → Nat → Nat
  | 0, k => c - 8 * k
  | 1, k => c + k
  | 2, k => c + 8 * k
  | _ + 3, k => c - k
theorem echo_room {fr : Nat → Bool} {c way : Nat} (hc : c < 64) : echoN fr c way ≤ roomW c way := by
  have h : ∀ (m c : Nat), c < 64 → roomW c way = m → echoN fr c way ≤ m := by
    intro m
    induction m with
    | zero =>
      intro c hc hm
      rw [echo_bes hc]
      cases e : besN fr c way with
      | none => exact Nat.le_refl _
      | some d => have := (bes_some hc e).2.2; omega
    | succ m ih =>
      intro c hc hm
      rw [echo_bes hc]
      cases e : besN fr c way with
      | none => exact Nat.zero_le _
      | some d =>
        obtain ⟨q1, q2, q3⟩ := bes_some hc e
        have := ih d q1 (by omega)
        show echoN fr d way + 1 ≤ m + 1
        omega
  exact h _ c hc rfl
theorem nI_neg8 {c k : Nat} (h : 8 * k ≤ c) : nI c + nI k * (8 * (-1) + 0) = nI (c - 8 * k) := by
  rw [show (8 * (-1) + 0 : Int32) = -(nI 8) from by decide, Int32.mul_neg, pk_mul, ← Int32.sub_eq_add_neg, pk_sub (by omega), Nat.mul_comm]
theorem nI_neg1 {c k : Nat} (h : k ≤ c) : nI c + nI k * (8 * 0 + (-1)) = nI (c - k) := by
  rw [show (8 * 0 + (-1) : Int32) = -(nI 1) from by decide, Int32.mul_neg, pk_mul, ← Int32.sub_eq_add_neg, Nat.mul_one, pk_sub h]
theorem ray_nI {c way k : Nat} (hc : c < 64) (hw : way < 4) (hk : k ≤ roomW c way) : nI c + nI k * (8 * rowSt way + colSt way) = nI (rayN c way k) ∧ rayN c way k < 64 := by
  rcases (show way = 0 ∨ way = 1 ∨ way = 2 ∨ way = 3 by omega) with rfl | rfl | rfl | rfl
  · have hk : k ≤ c / 8 := hk
    exact ⟨nI_neg8 (by omega), by show c - 8 * k < 64; omega⟩
  · have hk : k ≤ 7 - c % 8 := hk
    refine ⟨?_, by show c + k < 64; omega⟩
    show nI c + nI k * (8 * 0 + 1) = nI (c + k)
    rw [show (8 * 0 + 1 : Int32) = nI 1 from by decide, pk_mul, nI_add, Nat.mul_one]
  · have hk : k ≤ 7 - c / 8 := hk
    refine ⟨?_, by show c + 8 * k < 64; omega⟩
    show nI c + nI k * (8 * 1 + 0) = nI (c + 8 * k)
    rw [show (8 * 1 + 0 : Int32) = nI 8 from by decide, pk_mul, nI_add, Nat.mul_comm]
  · have hk : k ≤ c % 8 := hk
    exact ⟨nI_neg1 (by omega), by show c - k < 64; omega⟩
def vwF (fr : Nat → Bool) (c : Nat) : Int64 := itF (fun way v => itF (fun k v => v ||| lshl 1 (nI (rayN c way (k + 1)))) 0 (echoN fr c way) v) 0 4 (lshl 1 (nI c))
def f_X1_viewFrom (S : MS) (x1 : Int32) : Int64 := vwF (frC S) x1.toNatClampNeg
def p_X1_viewFrom (x1 : Int32) : Prop := ∃ c, c < 64 ∧ x1 = nI c
set_option maxRecDepth 100000 in
theorem c_X1_viewFrom (l : Launch) (D : va_G) (E : Nat → ClassId) (a1 a2 : Nat) (ad : Nat → Nat) (S : MS) (x1 : Int32) (hp : p_X1_viewFrom x1) : Fn l D E a1 a2 yX1_viewFrom wsX1_viewFrom 2 48 [.ref (ad 8), .int x1] (cW E ad S) (some (.long (f_X1_viewFrom S x1))) (cW E ad S) := by
  refine Fn.of (cc := cX1_viewFrom) (maxL := 8) (ret := (some .long)) (own := RX1) (by decide) rfl rfl (sameC _ _ _ _) (Nat.le_of_ble_eq_true rfl) (fun X h1 h2 h3 h4 h5 C hE => ?_)
  subst h1 h2 h3 h4 h5
  obtain ⟨c, hc, rfl⟩ := hp
  have cc : (nI c).toNatClampNeg = c := nI_clamp (by omega)
  rw [f_X1_viewFrom, cc] at hE
  refine r_X1_viewFrom_0 C ad S (nI c) ?_
  refine for_go (P := fun way v => At X 8 (cW X.E ad S) 7 [(0, .ref (ad 8)), (1, .int (nI c)), (2, .long v), (4, .int (nI way))] []) (N := 4) (fun way v => itF (fun k v => v ||| lshl 1 (nI (rayN c way (k + 1)))) 0 (echoN (frC S) c way) v) (fun way v hw h => ?_) 4 0 _ rfl ?_
  · have v4 : vp_in (nI way) 4 := vp_in_nI hw (by decide)
    refine r_X1_viewFrom_7 C ad S (nI c) v (nI way) ⟨fun q => nlt_no (by decide) hw q, fun _ => ⟨v4, v4, ⟨c, way, hc, hw, rfl, rfl⟩, ?_⟩⟩
    have hroom := echo_room (fr := frC S) (way := way) hc
    have h7 := roomW_le (way := way) hc
    rw [f_X1_freeAhead, cc, nI_clamp (show way < 2 ^ 31 by omega)]
    generalize echoN (frC S) c way = m at hroom h ⊢
    refine for_go (P := fun k v => At X 8 (cW X.E ad S) 43 [(0, .ref (ad 8)), (1, .int (nI c)), (2, .long v), (4, .int (nI way)), (5, .int (8 * rowSt way + colSt way)), (6, .int (nI m)), (7, .int (nI (k + 1)))] []) (N := m) (fun k v => v ||| lshl 1 (nI (rayN c way (k + 1)))) (fun k v hk h => ?_) m 0 v (Nat.zero_add _) ?_
    · refine r_X1_viewFrom_43 C ad S (nI c) v (nI way) _ (nI m) (nI (k + 1)) ⟨fun q => absurd ((nlt (by omega) (by omega)).mp q) (by omega), fun _ => ?_⟩
      rw [nI_1, (ray_nI hc hw (by omega)).1]
      exact h
    · refine r_X1_viewFrom_43 C ad S (nI c) _ (nI way) _ (nI m) (nI (m + 1)) ⟨fun _ => ?_, fun q => absurd ((nlt (by omega) (by omega)).mpr (by omega)) q⟩
      rw [nI_1]; exact h
  · exact r_X1_viewFrom_7 C ad S (nI c) _ (nI 4) ⟨fun _ => hE, fun q => nle_no q⟩
theorem dX1_findTwoWatchers_0 : decode cX1_findTwoWatchers 0 = .ok (.iconst 0, 1) := by decide +kernel
theorem dX1_findTwoWatchers_1 : decode cX1_findTwoWatchers 1 = .ok (.istore_n 1, 1) := by decide +kernel
theorem dX1_findTwoWatchers_2 : decode cX1_findTwoWatchers 2 = .ok (.iload_n 1, 1) := by decide +kernel
theorem dX1_findTwoWatchers_3 : decode cX1_findTwoWatchers 3 = .ok (.bipush 64, 2) := by decide +kernel
theorem dX1_findTwoWatchers_5 : decode cX1_findTwoWatchers 5 = .ok (.if_icmp .ge 62, 3) := by decide +kernel
theorem dX1_findTwoWatchers_8 : decode cX1_findTwoWatchers 8 = .ok (.iload_n 1, 1) := by decide +kernel
theorem dX1_findTwoWatchers_9 : decode cX1_findTwoWatchers 9 = .ok (.iconst 1, 1) := by decide +kernel
theorem dX1_findTwoWatchers_10 : decode cX1_findTwoWatchers 10 = .ok (.iadd, 1) := by decide +kernel
theorem dX1_findTwoWatchers_11 : decode cX1_findTwoWatchers 11 = .ok (.istore_n 2, 1) := by decide +kernel
theorem dX1_findTwoWatchers_12 : decode cX1_findTwoWatchers 12 = .ok (.iload_n 2, 1) := by decide +kernel
theorem dX1_findTwoWatchers_13 : decode cX1_findTwoWatchers 13 = .ok (.bipush 64, 2) := by decide +kernel
theorem dX1_findTwoWatchers_15 : decode cX1_findTwoWatchers 15 = .ok (.if_icmp .ge 46, 3) := by decide +kernel
theorem dX1_findTwoWatchers_18 : decode cX1_findTwoWatchers 18 = .ok (.aload_n 0, 1) := by decide +kernel
theorem dX1_findTwoWatchers_19 : decode cX1_findTwoWatchers 19 = .ok (.getfield 9, 3) := by decide +kernel
theorem dX1_findTwoWatchers_22 : decode cX1_findTwoWatchers 22 = .ok (.iload_n 1, 1) := by decide +kernel
theorem dX1_findTwoWatchers_23 : decode cX1_findTwoWatchers 23 = .ok (.laload, 1) := by decide +kernel
theorem dX1_findTwoWatchers_24 : decode cX1_findTwoWatchers 24 = .ok (.aload_n 0, 1) := by decide +kernel
theorem dX1_findTwoWatchers_25 : decode cX1_findTwoWatchers 25 = .ok (.getfield 9, 3) := by decide +kernel
theorem dX1_findTwoWatchers_28 : decode cX1_findTwoWatchers 28 = .ok (.iload_n 2, 1) := by decide +kernel
theorem dX1_findTwoWatchers_29 : decode cX1_findTwoWatchers 29 = .ok (.laload, 1) := by decide +kernel
theorem dX1_findTwoWatchers_30 : decode cX1_findTwoWatchers 30 = .ok (.lor, 1) := by decide +kernel
theorem dX1_findTwoWatchers_31 : decode cX1_findTwoWatchers 31 = .ok (.aload_n 0, 1) := by decide +kernel
theorem dX1_findTwoWatchers_32 : decode cX1_findTwoWatchers 32 = .ok (.getfield 33, 3) := by decide +kernel
theorem dX1_findTwoWatchers_35 : decode cX1_findTwoWatchers 35 = .ok (.lcmp, 1) := by decide +kernel
theorem dX1_findTwoWatchers_36 : decode cX1_findTwoWatchers 36 = .ok (.ifCond .ne 19, 3) := by decide +kernel
theorem dX1_findTwoWatchers_39 : decode cX1_findTwoWatchers 39 = .ok (.aload_n 0, 1) := by decide +kernel
theorem dX1_findTwoWatchers_40 : decode cX1_findTwoWatchers 40 = .ok (.iconst 2, 1) := by decide +kernel
theorem dX1_findTwoWatchers_41 : decode cX1_findTwoWatchers 41 = .ok (.putfield 76, 3) := by decide +kernel
theorem dX1_findTwoWatchers_44 : decode cX1_findTwoWatchers 44 = .ok (.aload_n 0, 1) := by decide +kernel
theorem dX1_findTwoWatchers_45 : decode cX1_findTwoWatchers 45 = .ok (.iload_n 1, 1) := by decide +kernel
theorem dX1_findTwoWatchers_46 : decode cX1_findTwoWatchers 46 = .ok (.putfield 19, 3) := by decide +kernel
theorem dX1_findTwoWatchers_49 : decode cX1_findTwoWatchers 49 = .ok (.aload_n 0, 1) := by decide +kernel
theorem dX1_findTwoWatchers_50 : decode cX1_findTwoWatchers 50 = .ok (.iload_n 2, 1) := by decide +kernel
theorem dX1_findTwoWatchers_51 : decode cX1_findTwoWatchers 51 = .ok (.putfield 22, 3) := by decide +kernel
theorem dX1_findTwoWatchers_54 : decode cX1_findTwoWatchers 54 = .ok (.return_, 1) := by decide +kernel
theorem dX1_findTwoWatchers_55 : decode cX1_findTwoWatchers 55 = .ok (.iinc 2 1, 3) := by decide +kernel
theorem dX1_findTwoWatchers_58 : decode cX1_findTwoWatchers 58 = .ok (.goto (-46), 3) := by decide +kernel
theorem dX1_findTwoWatchers_61 : decode cX1_findTwoWatchers 61 = .ok (.iinc 1 1, 3) := by decide +kernel
theorem dX1_findTwoWatchers_64 : decode cX1_findTwoWatchers 64 = .ok (.goto (-62), 3) := by decide +kernel
theorem dX1_findTwoWatchers_67 : decode cX1_findTwoWatchers 67 = .ok (.return_, 1) := by decide +kernel
theorem iw_X1_findTwoWatchers_X1 : ∀ w ∈ u_ws RX1 TX1 6, w ∈ wsX1_findTwoWatchers := by decide +kernel
theorem lk_X1_findTwoWatchers_0 : Cond.fieldLink RX1 9 (TX1 0).1 (TX1 0).2.1 (TX1 0).2.2.1 ∈ wsX1_findTwoWatchers := by decide +kernel
theorem lk_X1_findTwoWatchers_1 : Cond.fieldLink RX1 33 (TX1 1).1 (TX1 1).2.1 (TX1 1).2.2.1 ∈ wsX1_findTwoWatchers := by decide +kernel
theorem lk_X1_findTwoWatchers_2 : Cond.fieldLink RX1 76 (TX1 3).1 (TX1 3).2.1 (TX1 3).2.2.1 ∈ wsX1_findTwoWatchers := by decide +kernel
theorem lk_X1_findTwoWatchers_3 : Cond.fieldLink RX1 19 (TX1 4).1 (TX1 4).2.1 (TX1 4).2.2.1 ∈ wsX1_findTwoWatchers := by decide +kernel
theorem lk_X1_findTwoWatchers_4 : Cond.fieldLink RX1 22 (TX1 5).1 (TX1 5).2.1 (TX1 5).2.2.1 ∈ wsX1_findTwoWatchers := by decide +kernel
set_option maxRecDepth 100000 in
theorem r_X1_findTwoWatchers_0 {X : Bn} (C : Cx X cX1_findTwoWatchers 3 RX1 wsX1_findTwoWatchers 0 0) (ad : Nat → Nat) (S : MS) (h : At X 3 (cW X.E ad S) 2 [(0, .ref (ad 8)), (1, .int 0)] []) : At X 3 (cW X.E ad S) 0 [(0, .ref (ad 8))] [] := by
  refine at_iconst C dX1_findTwoWatchers_0 (v := 0) rfl ?_
  refine at_istore_n C dX1_findTwoWatchers_1 rfl (by decide) (lv' := [(1, .int 0), (0, .ref (ad 8))]) rfl ?_
  refine at_lv [1, 0] rfl ?_
  exact h
set_option maxRecDepth 100000 in
theorem r_X1_findTwoWatchers_2 {X : Bn} (C : Cx X cX1_findTwoWatchers 3 RX1 wsX1_findTwoWatchers 0 0) (ad : Nat → Nat) (S : MS) (x1 : Int32) (h : ((64 ≤ x1) → (Ends X (none) none (cW X.E ad S))) ∧ (¬ 64 ≤ x1 → (At X 3 (cW X.E ad S) 12 [(0, .ref (ad 8)), (1, .int x1), (2, .int (x1 + 1))] []))) : At X 3 (cW X.E ad S) 2 [(0, .ref (ad 8)), (1, .int x1)] [] := by
  refine at_iload_n C dX1_findTwoWatchers_2 rfl (j := 1) rfl ?_
  refine at_bipush C dX1_findTwoWatchers_3 (v := 64) rfl ?_
  refine at_icmp_ge C dX1_findTwoWatchers_5 (tgt := 67) (by decide) (fun hc0 => ?_) (fun hc0 => ?_)
  · replace h := h.1 hc0
    exact at_vret C dX1_findTwoWatchers_67 h
  · replace h := h.2 hc0
    refine at_iload_n C dX1_findTwoWatchers_8 rfl (j := 1) rfl ?_
    refine at_iconst C dX1_findTwoWatchers_9 (v := 1) rfl ?_
    refine at_iadd C dX1_findTwoWatchers_10 ?_
    refine at_istore_n C dX1_findTwoWatchers_11 rfl (by decide) (lv' := [(2, .int (x1 + 1)), (0, .ref (ad 8)), (1, .int x1)]) rfl ?_
    refine at_lv [1, 2, 0] rfl ?_
    exact h
set_option maxRecDepth 100000 in
theorem r_X1_findTwoWatchers_12 {X : Bn} (C : Cx X cX1_findTwoWatchers 3 RX1 wsX1_findTwoWatchers 0 0) (ad : Nat → Nat) (S : MS) (x1 : Int32) (x2 : Int32) (h : ((64 ≤ x2) → (At X 3 (cW X.E ad S) 2 [(0, .ref (ad 8)), (1, .int (x1 + 1))] [])) ∧ (¬ 64 ≤ x2 → ((vp_in x1 64) ∧ ((vp_in x2 64) ∧ ((((S.2 0 x1.toNatClampNeg) ||| (S.2 0 x2.toNatClampNeg) = S.2 1 0) → (Ends X (none) none (cW X.E ad (pg (pg (pg S 9 0 2) 10 0 x1) 11 0 x2)))) ∧ (¬ (S.2 0 x1.toNatClampNeg) ||| (S.2 0 x2.toNatClampNeg) = S.2 1 0 → (At X 3 (cW X.E ad S) 12 [(0, .ref (ad 8)), (1, .int x1), (2, .int (x2 + 1))] []))))))) : At X 3 (cW X.E ad S) 12 [(0, .ref (ad 8)), (1, .int x1), (2, .int x2)] [] := by
  refine at_iload_n C dX1_findTwoWatchers_12 rfl (j := 2) rfl ?_
  refine at_bipush C dX1_findTwoWatchers_13 (v := 64) rfl ?_
  refine at_icmp_ge C dX1_findTwoWatchers_15 (tgt := 61) (by decide) (fun hc1 => ?_) (fun hc1 => ?_)
  · replace h := h.1 hc1
    refine at_iinc C dX1_findTwoWatchers_61 (j := 1) (v := x1 + 1) rfl rfl (by decide) (lv' := [(1, .int (x1 + 1)), (0, .ref (ad 8)), (2, .int x2)]) rfl ?_
    refine at_goto C dX1_findTwoWatchers_64 (tgt := 2) (by decide) ?_
    refine at_lv [1, 0] rfl ?_
    exact h
  · replace h := h.2 hc1
    refine at_aload_n C dX1_findTwoWatchers_18 rfl (j := 0) rfl ?_
    refine at_get C (K := RX1) (T := TX1) (N := 6) (ci := 1) (v := .ref (ad 9)) iw_X1_findTwoWatchers_X1 8 cW_c8 rfl 0 (by decide) lk_X1_findTwoWatchers_0 rfl dX1_findTwoWatchers_19 ?_
    refine at_iload_n C dX1_findTwoWatchers_22 rfl (j := 1) rfl ?_
    refine at_lald C 9 cW_c9 h.1 dX1_findTwoWatchers_23 ?_
    replace h := h.2
    refine at_aload_n C dX1_findTwoWatchers_24 rfl (j := 0) rfl ?_
    refine at_get C (K := RX1) (T := TX1) (N := 6) (ci := 1) (v := .ref (ad 9)) iw_X1_findTwoWatchers_X1 8 cW_c8 rfl 0 (by decide) lk_X1_findTwoWatchers_0 rfl dX1_findTwoWatchers_25 ?_
    refine at_iload_n C dX1_findTwoWatchers_28 rfl (j := 2) rfl ?_
    refine at_lald C 9 cW_c9 h.1 dX1_findTwoWatchers_29 ?_
    replace h := h.2
    refine at_lor C dX1_findTwoWatchers_30 ?_
    refine at_aload_n C dX1_findTwoWatchers_31 rfl (j := 0) rfl ?_
    refine at_get C (K := RX1) (T := TX1) (N := 6) (ci := 1) (v := .long (S.2 1 0)) iw_X1_findTwoWatchers_X1 8 cW_c8 rfl 1 (by decide) lk_X1_findTwoWatchers_1 rfl dX1_findTwoWatchers_32 ?_
    refine at_lif_ne C dX1_findTwoWatchers_35 dX1_findTwoWatchers_36 (tgt := 55) (by decide) (fun hc2 => ?_) (fun hc2 => ?_)
    · replace h := h.2 hc2
      refine at_iinc C dX1_findTwoWatchers_55 (j := 2) (v := x2 + 1) rfl rfl (by decide) (lv' := [(2, .int (x2 + 1)), (0, .ref (ad 8)), (1, .int x1)]) rfl ?_
      refine at_goto C dX1_findTwoWatchers_58 (tgt := 12) (by decide) ?_
      refine at_lv [1, 2, 0] rfl ?_
      exact h
    · replace h := h.1 hc2
      refine at_aload_n C dX1_findTwoWatchers_39 rfl (j := 0) rfl ?_
      refine at_iconst C dX1_findTwoWatchers_40 (v := 2) rfl ?_
      refine at_put C (K := RX1) (T := TX1) (N := 6) (ci := 1) (ty := .int) iw_X1_findTwoWatchers_X1 tyX1 tyX1_ok nmX1 8 cW_c8 rfl 3 (by decide) lk_X1_findTwoWatchers_2 rfl rfl rfl rfl (Nat.le_of_ble_eq_true rfl) cW_f8_3 dX1_findTwoWatchers_41 ?_
      refine at_aload_n C dX1_findTwoWatchers_44 rfl (j := 0) rfl ?_
      refine at_iload_n C dX1_findTwoWatchers_45 rfl (j := 1) rfl ?_
      refine at_put C (K := RX1) (T := TX1) (N := 6) (ci := 1) (ty := .int) iw_X1_findTwoWatchers_X1 tyX1 tyX1_ok nmX1 8 cW_c8 rfl 4 (by decide) lk_X1_findTwoWatchers_3 rfl rfl rfl rfl (Nat.le_of_ble_eq_true rfl) cW_f8_4 dX1_findTwoWatchers_46 ?_
      refine at_aload_n C dX1_findTwoWatchers_49 rfl (j := 0) rfl ?_
      refine at_iload_n C dX1_findTwoWatchers_50 rfl (j := 2) rfl ?_
      refine at_put C (K := RX1) (T := TX1) (N := 6) (ci := 1) (ty := .int) iw_X1_findTwoWatchers_X1 tyX1 tyX1_ok nmX1 8 cW_c8 rfl 5 (by decide) lk_X1_findTwoWatchers_4 rfl rfl rfl rfl (Nat.le_of_ble_eq_true rfl) cW_f8_5 dX1_findTwoWatchers_51 ?_
      exact at_vret C dX1_findTwoWatchers_54 h
def two2 (vw : Nat → Int64) (all : Int64) (c d : Nat) : Bool := decide (vw c ||| vw d = all)
def pairsC (vw : Nat → Int64) (all : Int64) : Nat → Nat → Option (Nat × Nat)
  | 0, _ => none
  | k + 1, c => match srch (two2 vw all c) (64 - (c + 1)) (c + 1) with
    | some d => some (c, d)
    | none => pairsC vw all k (c + 1)
def twS (S : MS) : Option (Nat × Nat) → MS
  | none => S
  | some p => pg (pg (pg S 9 0 2) 10 0 (nI p.1)) 11 0 (nI p.2)
theorem c_X1_findTwoWatchers (ad : Nat → Nat) (S : MS) (l : Launch) (D : va_G) (E : Nat → ClassId) (a1 a2 : Nat) : Fn l D E a1 a2 yX1_findTwoWatchers wsX1_findTwoWatchers 0 0 [.ref (ad 8)] (cW E ad S) none (cW E ad (twS S (pairsC (S.2 0) (S.2 1 0) 64 0))) := by
  refine Fn.of (cc := cX1_findTwoWatchers) (maxL := 3) (ret := none) (own := RX1) (by decide) rfl rfl (sameC _ _ _ _) (Nat.le_of_ble_eq_true rfl) (fun X q1 q2 q3 q4 q5 C hE => ?_)
  subst q1 q2 q3 q4 q5
  refine r_X1_findTwoWatchers_0 C ad S ?_
  have inner : ∀ (k c d : Nat), d + k = 64 → c < 64 → (∀ d2, srch (two2 (S.2 0) (S.2 1 0) c) k d = some d2 → Ends X none none (cW X.E ad (twS S (some (c, d2))))) → (srch (two2 (S.2 0) (S.2 1 0) c) k d = none → At X 3 (cW X.E ad S) 2 [(0, .ref (ad 8)), (1, .int (nI (c + 1)))] []) → At X 3 (cW X.E ad S) 12 [(0, .ref (ad 8)), (1, .int (nI c)), (2, .int (nI d))] [] := by
    intro k
    induction k with
    | zero =>
      intro c d hd hc F K
      have : d = 64 := by omega
      subst this
      refine r_X1_findTwoWatchers_12 C ad S (nI c) (nI 64) ⟨fun _ => ?_, fun q => nle_no q⟩
      rw [nI_1]; exact K rfl
    | succ k ih =>
      intro c d hd hc F K
      refine r_X1_findTwoWatchers_12 C ad S (nI c) (nI d) ⟨fun q => nlt_no (a := d) (b := 64) (by decide) (by omega) q, fun _ => ⟨vp_in_nI hc (by decide), vp_in_nI (by omega) (by decide), ?_⟩⟩
      rw [nI_clamp (show c < 2 ^ 31 by omega), nI_clamp (show d < 2 ^ 31 by omega)]
      rw [srch] at F K
      by_cases h : S.2 0 c ||| S.2 0 d = S.2 1 0
      · have t : two2 (S.2 0) (S.2 1 0) c d = true := decide_eq_true h
        rw [if_pos t] at F
        exact ⟨fun _ => F d rfl, fun q => absurd h q⟩
      · have t : ¬ two2 (S.2 0) (S.2 1 0) c d = true := by rw [two2, decide_eq_false h]; decide
        rw [if_neg t] at F K
        refine ⟨fun q => absurd q h, fun _ => ?_⟩
        rw [nI_1]
        exact ih c (d + 1) (by omega) hc F K
  have outer : ∀ (k c : Nat), c + k = 64 → pairsC (S.2 0) (S.2 1 0) k c = pairsC (S.2 0) (S.2 1 0) 64 0 → At X 3 (cW X.E ad S) 2 [(0, .ref (ad 8)), (1, .int (nI c))] [] := by
    intro k
    induction k with
    | zero =>
      intro c hc e
      have : c = 64 := by omega
      subst this
      rw [← e] at hE
      exact r_X1_findTwoWatchers_2 C ad S (nI 64) ⟨fun _ => hE, fun q => nle_no q⟩
    | succ k ih =>
      intro c hc e
      refine r_X1_findTwoWatchers_2 C ad S (nI c) ⟨fun q => nlt_no (a := c) (b := 64) (by decide) (by omega) q, fun _ => ?_⟩
      rw [nI_1]
      rw [pairsC] at e
      refine inner (64 - (c + 1)) c (c + 1) (by omega) (by omega) (fun d2 h => ?_) (fun h => ?_)
      · rw [h] at e
        rw [← e] at hE; exact hE
      · rw [h] at e
        exact ih (c + 1) (by omega) e
  exact outer 64 0 rfl rfl
set_option maxRecDepth 20000 in
theorem ggX1_findWatchers_X1_isFree : GoodIn wsX1_findWatchers wsX1_isFree := goodIn_r _ [10, 4, 11, 12, 9, 13, 14, 15, 16, 31, 32, 33, 34, 35, 36] (by decide +kernel) (by decide +kernel)
set_option maxRecDepth 20000 in
theorem gX1_findWatchers_X1_isFree : GoodIn wsX1_findWatchers (wsV RX1 79 RX1 yX1_isFree wsX1_isFree) := goodIn_app (goodIn_of _ (by decide +kernel)) ggX1_findWatchers_X1_isFree
set_option maxRecDepth 20000 in
theorem ggX1_findWatchers_X1_viewFrom : GoodIn wsX1_findWatchers wsX1_viewFrom := goodIn_r _ [20, 21, 22, 23, 24, 25, 9, 26, 4, 14, 15, 16, 31, 32, 33, 34, 35, 36] (by decide +kernel) (by decide +kernel)
set_option maxRecDepth 20000 in
theorem gX1_findWatchers_X1_viewFrom : GoodIn wsX1_findWatchers (wsV RX1 83 RX1 yX1_viewFrom wsX1_viewFrom) := goodIn_app (goodIn_of _ (by decide +kernel)) ggX1_findWatchers_X1_viewFrom
set_option maxRecDepth 20000 in
theorem ggX1_findWatchers_X1_findTwoWatchers : GoodIn wsX1_findWatchers wsX1_findTwoWatchers := goodIn_r _ [30, 5, 4, 1, 2, 3, 31, 32, 33, 34, 35, 36] (by decide +kernel) (by decide +kernel)
set_option maxRecDepth 20000 in
theorem gX1_findWatchers_X1_findTwoWatchers : GoodIn wsX1_findWatchers (wsV RX1 87 RX1 yX1_findTwoWatchers wsX1_findTwoWatchers) := goodIn_app (goodIn_of _ (by decide +kernel)) ggX1_findWatchers_X1_findTwoWatchers
theorem dX1_findWatchers_0 : decode cX1_findWatchers 0 = .ok (.aload_n 0, 1) := by decide +kernel
theorem dX1_findWatchers_1 : decode cX1_findWatchers 1 = .ok (.iconst (-1), 1) := by decide +kernel
theorem dX1_findWatchers_2 : decode cX1_findWatchers 2 = .ok (.putfield 76, 3) := by decide +kernel
theorem dX1_findWatchers_5 : decode cX1_findWatchers 5 = .ok (.aload_n 0, 1) := by decide +kernel
theorem dX1_findWatchers_6 : decode cX1_findWatchers 6 = .ok (.iconst (-1), 1) := by decide +kernel
theorem dX1_findWatchers_7 : decode cX1_findWatchers 7 = .ok (.putfield 19, 3) := by decide +kernel
theorem dX1_findWatchers_10 : decode cX1_findWatchers 10 = .ok (.aload_n 0, 1) := by decide +kernel
theorem dX1_findWatchers_11 : decode cX1_findWatchers 11 = .ok (.iconst (-1), 1) := by decide +kernel
theorem dX1_findWatchers_12 : decode cX1_findWatchers 12 = .ok (.putfield 22, 3) := by decide +kernel
theorem dX1_findWatchers_15 : decode cX1_findWatchers 15 = .ok (.aload_n 0, 1) := by decide +kernel
theorem dX1_findWatchers_16 : decode cX1_findWatchers 16 = .ok (.getfield 33, 3) := by decide +kernel
theorem dX1_findWatchers_19 : decode cX1_findWatchers 19 = .ok (.lconst 0, 1) := by decide +kernel
theorem dX1_findWatchers_20 : decode cX1_findWatchers 20 = .ok (.lcmp, 1) := by decide +kernel
theorem dX1_findWatchers_21 : decode cX1_findWatchers 21 = .ok (.ifCond .ne 9, 3) := by decide +kernel
theorem dX1_findWatchers_24 : decode cX1_findWatchers 24 = .ok (.aload_n 0, 1) := by decide +kernel
theorem dX1_findWatchers_25 : decode cX1_findWatchers 25 = .ok (.iconst 0, 1) := by decide +kernel
theorem dX1_findWatchers_26 : decode cX1_findWatchers 26 = .ok (.putfield 76, 3) := by decide +kernel
theorem dX1_findWatchers_29 : decode cX1_findWatchers 29 = .ok (.return_, 1) := by decide +kernel
theorem dX1_findWatchers_30 : decode cX1_findWatchers 30 = .ok (.iconst 0, 1) := by decide +kernel
theorem dX1_findWatchers_31 : decode cX1_findWatchers 31 = .ok (.istore_n 1, 1) := by decide +kernel
theorem dX1_findWatchers_32 : decode cX1_findWatchers 32 = .ok (.iload_n 1, 1) := by decide +kernel
theorem dX1_findWatchers_33 : decode cX1_findWatchers 33 = .ok (.bipush 64, 2) := by decide +kernel
theorem dX1_findWatchers_35 : decode cX1_findWatchers 35 = .ok (.if_icmp .ge 32, 3) := by decide +kernel
theorem dX1_findWatchers_38 : decode cX1_findWatchers 38 = .ok (.aload_n 0, 1) := by decide +kernel
theorem dX1_findWatchers_39 : decode cX1_findWatchers 39 = .ok (.getfield 9, 3) := by decide +kernel
theorem dX1_findWatchers_42 : decode cX1_findWatchers 42 = .ok (.iload_n 1, 1) := by decide +kernel
theorem dX1_findWatchers_43 : decode cX1_findWatchers 43 = .ok (.aload_n 0, 1) := by decide +kernel
theorem dX1_findWatchers_44 : decode cX1_findWatchers 44 = .ok (.iload_n 1, 1) := by decide +kernel
theorem dX1_findWatchers_45 : decode cX1_findWatchers 45 = .ok (.invokevirtual 79, 3) := by decide +kernel
theorem dX1_findWatchers_48 : decode cX1_findWatchers 48 = .ok (.ifCond .eq 11, 3) := by decide +kernel
theorem dX1_findWatchers_51 : decode cX1_findWatchers 51 = .ok (.aload_n 0, 1) := by decide +kernel
theorem dX1_findWatchers_52 : decode cX1_findWatchers 52 = .ok (.iload_n 1, 1) := by decide +kernel
theorem dX1_findWatchers_53 : decode cX1_findWatchers 53 = .ok (.invokevirtual 83, 3) := by decide +kernel
theorem dX1_findWatchers_56 : decode cX1_findWatchers 56 = .ok (.goto 4, 3) := by decide +kernel
theorem dX1_findWatchers_59 : decode cX1_findWatchers 59 = .ok (.lconst 0, 1) := by decide +kernel
theorem dX1_findWatchers_60 : decode cX1_findWatchers 60 = .ok (.lastore, 1) := by decide +kernel
theorem dX1_findWatchers_61 : decode cX1_findWatchers 61 = .ok (.iinc 1 1, 3) := by decide +kernel
theorem dX1_findWatchers_64 : decode cX1_findWatchers 64 = .ok (.goto (-32), 3) := by decide +kernel
theorem dX1_findWatchers_67 : decode cX1_findWatchers 67 = .ok (.iconst 0, 1) := by decide +kernel
theorem dX1_findWatchers_68 : decode cX1_findWatchers 68 = .ok (.istore_n 1, 1) := by decide +kernel
theorem dX1_findWatchers_69 : decode cX1_findWatchers 69 = .ok (.iload_n 1, 1) := by decide +kernel
theorem dX1_findWatchers_70 : decode cX1_findWatchers 70 = .ok (.bipush 64, 2) := by decide +kernel
theorem dX1_findWatchers_72 : decode cX1_findWatchers 72 = .ok (.if_icmp .ge 34, 3) := by decide +kernel
theorem dX1_findWatchers_75 : decode cX1_findWatchers 75 = .ok (.aload_n 0, 1) := by decide +kernel
theorem dX1_findWatchers_76 : decode cX1_findWatchers 76 = .ok (.getfield 9, 3) := by decide +kernel
theorem dX1_findWatchers_79 : decode cX1_findWatchers 79 = .ok (.iload_n 1, 1) := by decide +kernel
theorem dX1_findWatchers_80 : decode cX1_findWatchers 80 = .ok (.laload, 1) := by decide +kernel
theorem dX1_findWatchers_81 : decode cX1_findWatchers 81 = .ok (.aload_n 0, 1) := by decide +kernel
theorem dX1_findWatchers_82 : decode cX1_findWatchers 82 = .ok (.getfield 33, 3) := by decide +kernel
theorem dX1_findWatchers_85 : decode cX1_findWatchers 85 = .ok (.lcmp, 1) := by decide +kernel
theorem dX1_findWatchers_86 : decode cX1_findWatchers 86 = .ok (.ifCond .ne 14, 3) := by decide +kernel
theorem dX1_findWatchers_89 : decode cX1_findWatchers 89 = .ok (.aload_n 0, 1) := by decide +kernel
theorem dX1_findWatchers_90 : decode cX1_findWatchers 90 = .ok (.iconst 1, 1) := by decide +kernel
theorem dX1_findWatchers_91 : decode cX1_findWatchers 91 = .ok (.putfield 76, 3) := by decide +kernel
theorem dX1_findWatchers_94 : decode cX1_findWatchers 94 = .ok (.aload_n 0, 1) := by decide +kernel
theorem dX1_findWatchers_95 : decode cX1_findWatchers 95 = .ok (.iload_n 1, 1) := by decide +kernel
theorem dX1_findWatchers_96 : decode cX1_findWatchers 96 = .ok (.putfield 19, 3) := by decide +kernel
theorem dX1_findWatchers_99 : decode cX1_findWatchers 99 = .ok (.return_, 1) := by decide +kernel
theorem dX1_findWatchers_100 : decode cX1_findWatchers 100 = .ok (.iinc 1 1, 3) := by decide +kernel
theorem dX1_findWatchers_103 : decode cX1_findWatchers 103 = .ok (.goto (-34), 3) := by decide +kernel
theorem dX1_findWatchers_106 : decode cX1_findWatchers 106 = .ok (.aload_n 0, 1) := by decide +kernel
theorem dX1_findWatchers_107 : decode cX1_findWatchers 107 = .ok (.invokevirtual 87, 3) := by decide +kernel
theorem dX1_findWatchers_110 : decode cX1_findWatchers 110 = .ok (.return_, 1) := by decide +kernel
theorem iw_X1_findWatchers_X1 : ∀ w ∈ u_ws RX1 TX1 6, w ∈ wsX1_findWatchers := by decide +kernel
theorem lk_X1_findWatchers_0 : Cond.fieldLink RX1 76 (TX1 3).1 (TX1 3).2.1 (TX1 3).2.2.1 ∈ wsX1_findWatchers := by decide +kernel
theorem lk_X1_findWatchers_1 : Cond.fieldLink RX1 19 (TX1 4).1 (TX1 4).2.1 (TX1 4).2.2.1 ∈ wsX1_findWatchers := by decide +kernel
theorem lk_X1_findWatchers_2 : Cond.fieldLink RX1 22 (TX1 5).1 (TX1 5).2.1 (TX1 5).2.2.1 ∈ wsX1_findWatchers := by decide +kernel
theorem lk_X1_findWatchers_3 : Cond.fieldLink RX1 33 (TX1 1).1 (TX1 1).2.1 (TX1 1).2.2.1 ∈ wsX1_findWatchers := by decide +kernel
theorem lk_X1_findWatchers_4 : Cond.fieldLink RX1 9 (TX1 0).1 (TX1 0).2.1 (TX1 0).2.2.1 ∈ wsX1_findWatchers := by decide +kernel
set_option maxRecDepth 100000 in
theorem r_X1_findWatchers_0 {X : Bn} (C : Cx X cX1_findWatchers 2 RX1 wsX1_findWatchers 3 75) (ad : Nat → Nat) (S : MS) (h : ((S.2 1 0 = 0) → (Ends X (none) none (cW X.E ad (pg (pg (pg (pg S 9 0 (-1)) 10 0 (-1)) 11 0 (-1)) 9 0 0)))) ∧ (¬ S.2 1 0 = 0 → (At X 2 (cW X.E ad (pg (pg (pg S 9 0 (-1)) 10 0 (-1)) 11 0 (-1))) 32 [(0, .ref (ad 8)), (1, .int 0)] []))) : At X 2 (cW X.E ad S) 0 [(0, .ref (ad 8))] [] := by
  refine at_aload_n C dX1_findWatchers_0 rfl (j := 0) rfl ?_
  refine at_iconst C dX1_findWatchers_1 (v := (-1)) rfl ?_
  refine at_put C (K := RX1) (T := TX1) (N := 6) (ci := 1) (ty := .int) iw_X1_findWatchers_X1 tyX1 tyX1_ok nmX1 8 cW_c8 rfl 3 (by decide) lk_X1_findWatchers_0 rfl rfl rfl rfl (Nat.le_of_ble_eq_true rfl) cW_f8_3 dX1_findWatchers_2 ?_
  refine at_aload_n C dX1_findWatchers_5 rfl (j := 0) rfl ?_
  refine at_iconst C dX1_findWatchers_6 (v := (-1)) rfl ?_
  refine at_put C (K := RX1) (T := TX1) (N := 6) (ci := 1) (ty := .int) iw_X1_findWatchers_X1 tyX1 tyX1_ok nmX1 8 cW_c8 rfl 4 (by decide) lk_X1_findWatchers_1 rfl rfl rfl rfl (Nat.le_of_ble_eq_true rfl) cW_f8_4 dX1_findWatchers_7 ?_
  refine at_aload_n C dX1_findWatchers_10 rfl (j := 0) rfl ?_
  refine at_iconst C dX1_findWatchers_11 (v := (-1)) rfl ?_
  refine at_put C (K := RX1) (T := TX1) (N := 6) (ci := 1) (ty := .int) iw_X1_findWatchers_X1 tyX1 tyX1_ok nmX1 8 cW_c8 rfl 5 (by decide) lk_X1_findWatchers_2 rfl rfl rfl rfl (Nat.le_of_ble_eq_true rfl) cW_f8_5 dX1_findWatchers_12 ?_
  refine at_aload_n C dX1_findWatchers_15 rfl (j := 0) rfl ?_
  refine at_get C (K := RX1) (T := TX1) (N := 6) (ci := 1) (v := .long ((pg (pg (pg S 9 0 (-1)) 10 0 (-1)) 11 0 (-1)).2 1 0)) iw_X1_findWatchers_X1 8 cW_c8 rfl 1 (by decide) lk_X1_findWatchers_3 rfl dX1_findWatchers_16 ?_
  refine at_topL ((pg_v).trans ((pg_v).trans (pg_v))) ?_
  refine at_lconst C dX1_findWatchers_19 (v := 0) rfl ?_
  refine at_lif_ne C dX1_findWatchers_20 dX1_findWatchers_21 (tgt := 30) (by decide) (fun hc0 => ?_) (fun hc0 => ?_)
  · replace h := h.2 hc0
    refine at_iconst C dX1_findWatchers_30 (v := 0) rfl ?_
    refine at_istore_n C dX1_findWatchers_31 rfl (by decide) (lv' := [(1, .int 0), (0, .ref (ad 8))]) rfl ?_
    refine at_lv [1, 0] rfl ?_
    exact h
  · replace h := h.1 hc0
    refine at_aload_n C dX1_findWatchers_24 rfl (j := 0) rfl ?_
    refine at_iconst C dX1_findWatchers_25 (v := 0) rfl ?_
    refine at_put C (K := RX1) (T := TX1) (N := 6) (ci := 1) (ty := .int) iw_X1_findWatchers_X1 tyX1 tyX1_ok nmX1 8 cW_c8 rfl 3 (by decide) lk_X1_findWatchers_0 rfl rfl rfl rfl (Nat.le_of_ble_eq_true rfl) cW_f8_3 dX1_findWatchers_26 ?_
    exact at_vret C dX1_findWatchers_29 h
set_option maxRecDepth 100000 in
theorem r_X1_findWatchers_32 {X : Bn} (C : Cx X cX1_findWatchers 2 RX1 wsX1_findWatchers 3 75) (ad : Nat → Nat) (S : MS) (x1 : Int32) (h : ((64 ≤ x1) → (At X 2 (cW X.E ad S) 69 [(0, .ref (ad 8)), (1, .int 0)] [])) ∧ (¬ 64 ≤ x1 → (((((f_X1_isFree S x1) = true) → (p_X1_viewFrom x1))) ∧ ((vp_in x1 64) ∧ (At X 2 (cW X.E ad (pv S 0 x1.toNatClampNeg (if (f_X1_isFree S x1) then f_X1_viewFrom S x1 else 0))) 32 [(0, .ref (ad 8)), (1, .int (x1 + 1))] []))))) : At X 2 (cW X.E ad S) 32 [(0, .ref (ad 8)), (1, .int x1)] [] := by
  refine at_iload_n C dX1_findWatchers_32 rfl (j := 1) rfl ?_
  refine at_bipush C dX1_findWatchers_33 (v := 64) rfl ?_
  refine at_icmp_ge C dX1_findWatchers_35 (tgt := 67) (by decide) (fun hc1 => ?_) (fun hc1 => ?_)
  · replace h := h.1 hc1
    refine at_iconst C dX1_findWatchers_67 (v := 0) rfl ?_
    refine at_istore_n C dX1_findWatchers_68 rfl (by decide) (lv' := [(1, .int 0), (0, .ref (ad 8))]) rfl ?_
    refine at_lv [1, 0] rfl ?_
    exact h
  · replace h := h.2 hc1
    refine at_aload_n C dX1_findWatchers_38 rfl (j := 0) rfl ?_
    refine at_get C (K := RX1) (T := TX1) (N := 6) (ci := 1) (v := .ref (ad 9)) iw_X1_findWatchers_X1 8 cW_c8 rfl 0 (by decide) lk_X1_findWatchers_4 rfl dX1_findWatchers_39 ?_
    refine at_iload_n C dX1_findWatchers_42 rfl (j := 1) rfl ?_
    refine at_aload_n C dX1_findWatchers_43 rfl (j := 0) rfl ?_
    refine at_iload_n C dX1_findWatchers_44 rfl (j := 1) rfl ?_
    refine at_cV1 C 1 (c_X1_isFree X.l X.D X.E X.a1 X.a2 ad S x1) gX1_findWatchers_X1_isFree rfl (by decide +kernel) ⟨rfl, rfl⟩ rfl rfl rfl 8 cW_c8 rfl dX1_findWatchers_45 ?_
    have hq := h.1
    replace h := h.2
    have K : At X 2 (cW X.E ad S) 60 [(0, .ref (ad 8)), (1, .int x1)] [.long (if (f_X1_isFree S x1) then f_X1_viewFrom S x1 else 0), .int x1, .ref (ad 9)] := by
      refine at_last C 9 cW_c9 h.1 cW_s9 dX1_findWatchers_60 ?_
      replace h := h.2
      refine at_iinc C dX1_findWatchers_61 (j := 1) (v := x1 + 1) rfl rfl (by decide) (lv' := [(1, .int (x1 + 1)), (0, .ref (ad 8))]) rfl ?_
      refine at_goto C dX1_findWatchers_64 (tgt := 32) (by decide) ?_
      refine at_lv [1, 0] rfl ?_
      exact h
    replace h := hq
    refine at_ifB_eq C dX1_findWatchers_48 (tgt := 59) (by decide) (fun hc2 => ?_) (fun hc2 => ?_)
    · skip
      refine at_lconst C dX1_findWatchers_59 (v := 0) rfl ?_
      first | (simp only [if_neg (show ¬ (f_X1_isFree S x1) = true by rw [hc2]; decide)] at K; exact K) | exact K
    · replace h := h hc2
      refine at_aload_n C dX1_findWatchers_51 rfl (j := 0) rfl ?_
      refine at_iload_n C dX1_findWatchers_52 rfl (j := 1) rfl ?_
      refine at_cV1 C 1 (c_X1_viewFrom X.l X.D X.E X.a1 X.a2 ad S x1 h) gX1_findWatchers_X1_viewFrom rfl (by decide +kernel) ⟨rfl, rfl⟩ rfl rfl rfl 8 cW_c8 rfl dX1_findWatchers_53 ?_
      refine at_goto C dX1_findWatchers_56 (tgt := 60) (by decide) ?_
      first | (simp only [if_pos hc2] at K; exact K) | exact K
set_option maxRecDepth 100000 in
theorem r_X1_findWatchers_69 {X : Bn} (C : Cx X cX1_findWatchers 2 RX1 wsX1_findWatchers 3 75) (ad : Nat → Nat) (S : MS) (x1 : Int32) (h : ((64 ≤ x1) → (∃ (S1 : MS), (Fn X.l X.D X.E X.a1 X.a2 yX1_findTwoWatchers wsX1_findTwoWatchers 0 0 [.ref (ad 8)] (cW X.E ad S) none (cW X.E ad S1)) ∧ (Ends X (none) none (cW X.E ad S1)))) ∧ (¬ 64 ≤ x1 → ((vp_in x1 64) ∧ (((S.2 0 x1.toNatClampNeg = S.2 1 0) → (Ends X (none) none (cW X.E ad (pg (pg S 9 0 1) 10 0 x1)))) ∧ (¬ S.2 0 x1.toNatClampNeg = S.2 1 0 → (At X 2 (cW X.E ad S) 69 [(0, .ref (ad 8)), (1, .int (x1 + 1))] [])))))) : At X 2 (cW X.E ad S) 69 [(0, .ref (ad 8)), (1, .int x1)] [] := by
  refine at_iload_n C dX1_findWatchers_69 rfl (j := 1) rfl ?_
  refine at_bipush C dX1_findWatchers_70 (v := 64) rfl ?_
  refine at_icmp_ge C dX1_findWatchers_72 (tgt := 106) (by decide) (fun hc2 => ?_) (fun hc2 => ?_)
  · replace h := h.1 hc2
    refine at_aload_n C dX1_findWatchers_106 rfl (j := 0) rfl ?_
    obtain ⟨S1, hF1, h⟩ := h
    refine at_cV1v C 0 hF1 gX1_findWatchers_X1_findTwoWatchers rfl (by decide +kernel) ⟨rfl, rfl⟩ rfl rfl rfl 8 cW_c8 rfl dX1_findWatchers_107 ?_
    exact at_vret C dX1_findWatchers_110 h
  · replace h := h.2 hc2
    refine at_aload_n C dX1_findWatchers_75 rfl (j := 0) rfl ?_
    refine at_get C (K := RX1) (T := TX1) (N := 6) (ci := 1) (v := .ref (ad 9)) iw_X1_findWatchers_X1 8 cW_c8 rfl 0 (by decide) lk_X1_findWatchers_4 rfl dX1_findWatchers_76 ?_
    refine at_iload_n C dX1_findWatchers_79 rfl (j := 1) rfl ?_
    refine at_lald C 9 cW_c9 h.1 dX1_findWatchers_80 ?_
    replace h := h.2
    refine at_aload_n C dX1_findWatchers_81 rfl (j := 0) rfl ?_
    refine at_get C (K := RX1) (T := TX1) (N := 6) (ci := 1) (v := .long (S.2 1 0)) iw_X1_findWatchers_X1 8 cW_c8 rfl 1 (by decide) lk_X1_findWatchers_3 rfl dX1_findWatchers_82 ?_
    refine at_lif_ne C dX1_findWatchers_85 dX1_findWatchers_86 (tgt := 100) (by decide) (fun hc3 => ?_) (fun hc3 => ?_)
    · replace h := h.2 hc3
      refine at_iinc C dX1_findWatchers_100 (j := 1) (v := x1 + 1) rfl rfl (by decide) (lv' := [(1, .int (x1 + 1)), (0, .ref (ad 8))]) rfl ?_
      refine at_goto C dX1_findWatchers_103 (tgt := 69) (by decide) ?_
      refine at_lv [1, 0] rfl ?_
      exact h
    · replace h := h.1 hc3
      refine at_aload_n C dX1_findWatchers_89 rfl (j := 0) rfl ?_
      refine at_iconst C dX1_findWatchers_90 (v := 1) rfl ?_
      refine at_put C (K := RX1) (T := TX1) (N := 6) (ci := 1) (ty := .int) iw_X1_findWatchers_X1 tyX1 tyX1_ok nmX1 8 cW_c8 rfl 3 (by decide) lk_X1_findWatchers_0 rfl rfl rfl rfl (Nat.le_of_ble_eq_true rfl) cW_f8_3 dX1_findWatchers_91 ?_
      refine at_aload_n C dX1_findWatchers_94 rfl (j := 0) rfl ?_
      refine at_iload_n C dX1_findWatchers_95 rfl (j := 1) rfl ?_
      refine at_put C (K := RX1) (T := TX1) (N := 6) (ci := 1) (ty := .int) iw_X1_findWatchers_X1 tyX1 tyX1_ok nmX1 8 cW_c8 rfl 4 (by decide) lk_X1_findWatchers_1 rfl rfl rfl rfl (Nat.le_of_ble_eq_true rfl) cW_f8_4 dX1_findWatchers_96 ?_
      exact at_vret C dX1_findWatchers_99 h
def wtC (vw : Nat → Int64) (all : Int64) : Int32 × Int32 × Int32 :=
  if all = 0 then (0, -1, -1) else (match srch (one1 vw all) 64 0 with
    | some c => (1, nI c, -1)
    | none => match pairsC vw all 64 0 with
      | some p => (2, nI p.1, nI p.2)
      | none => (-1, -1, -1))
def vwC (S : MS) (c : Nat) : Int64 := if frC S c then vwF (frC S) c else 0
theorem srch_congr {P Q : Nat → Bool} : ∀ (k i : Nat), (∀ j, i ≤ j → j < i + k → P j = Q j) → srch P k i = srch Q k i
  | 0, _, _ => rfl
  | k + 1, i, h => by
    rw [srch, srch, h i (Nat.le_refl _) (by omega), srch_congr k (i + 1) (fun j h1 h2 => h j (by omega) (by omega))]
theorem pairsC_congr {vw vw' : Nat → Int64} {all : Int64} (h : ∀ c, c < 64 → vw c = vw' c) : ∀ (k c : Nat), c + k = 64 → pairsC vw all k c = pairsC vw' all k c
  | 0, _, _ => rfl
  | k + 1, c, e => by
    rw [pairsC, pairsC, srch_congr (P := two2 vw all c) (Q := two2 vw' all c) _ _ (fun j h1 h2 => by unfold two2; rw [h c (by omega), h j (by omega)]), pairsC_congr h k (c + 1) (by omega)]
/-- what findWatchers leaves -/
def wtS (S S' : MS) : Prop := (S'.1 9 0, S'.1 10 0, S'.1 11 0) = wtC (vwC S) (S.2 1 0) ∧ (∀ k, k ≠ 9 → k ≠ 10 → k ≠ 11 → S'.1 k = S.1 k) ∧ ∀ k, k ≠ 0 → S'.2 k = S.2 k
theorem c_X1_findWatchers (ad : Nat → Nat) (S : MS) :
    ∃ S', wtS S S' ∧ ∀ (l : Launch) (D : va_G) (E : Nat → ClassId) (a1 a2 : Nat), Fn l D E a1 a2 yX1_findWatchers wsX1_findWatchers 3 75 [.ref (ad 8)] (cW E ad S) none (cW E ad S') := by
  by_cases h0 : S.2 1 0 = 0
  · refine ⟨pg (pg (pg (pg S 9 0 (-1)) 10 0 (-1)) 11 0 (-1)) 9 0 0, ⟨?_, fun k h9 h10 h11 => ?_, fun k _ => rfl⟩, fun l D E a1 a2 => ?_⟩
    · rw [pg_s, pg_o (by decide), pg_o (by decide), pg_s, pg_o (by decide), pg_s, wtC, if_pos h0]
    · rw [pg_r h9, pg_r h11, pg_r h10, pg_r h9]
    · refine Fn.of (cc := cX1_findWatchers) (maxL := 2) (ret := none) (own := RX1) (by decide) rfl rfl (sameC _ _ _ _) (Nat.le_of_ble_eq_true rfl) (fun X q1 q2 q3 q4 q5 C hE => ?_)
      subst q1 q2 q3 q4 q5
      exact r_X1_findWatchers_0 C ad S ⟨fun _ => hE, fun q => absurd h0 q⟩
  · generalize hT : pg (pg (pg S 9 0 (-1)) 10 0 (-1)) 11 0 (-1) = T
    have t2 : T.2 = S.2 := by rw [← hT]; rfl
    have tk : ∀ k, k ≠ 9 → k ≠ 10 → k ≠ 11 → T.1 k = S.1 k := fun k h9 h10 h11 => by rw [← hT, pg_r h11, pg_r h10, pg_r h9]
    have t9 : T.1 9 0 = -1 := by rw [← hT, pg_o (by decide), pg_o (by decide), pg_s]
    have t10 : T.1 10 0 = -1 := by rw [← hT, pg_o (by decide), pg_s]
    have t11 : T.1 11 0 = -1 := by rw [← hT, pg_s]
    have fold : ∀ (k i : Nat) (f : Nat → Int64), i + k = 64 → (∀ c, c < i → f c = vwC S c) → ∃ f', (∀ c, c < 64 → f' c = vwC S c) ∧ ∀ X : Bn, Cx X cX1_findWatchers 2 RX1 wsX1_findWatchers 3 75 → At X 2 (cW X.E ad (setG T 0 f')) 69 [(0, .ref (ad 8)), (1, .int (nI 0))] [] → At X 2 (cW X.E ad (setG T 0 f)) 32 [(0, .ref (ad 8)), (1, .int (nI i))] [] := by
      intro k
      induction k with
      | zero =>
        intro i f hi hf
        have : i = 64 := by omega
        subst this
        exact ⟨f, hf, fun X C h => r_X1_findWatchers_32 C ad _ (nI 64) ⟨fun _ => h, fun q => nle_no q⟩⟩
      | succ k ih =>
        intro i f hi hf
        obtain ⟨f', h1, h2⟩ := ih (i + 1) (vp_updL f i (vwC S i)) (by omega) (fun c hc => by
          unfold vp_updL
          by_cases q : c = i
          · rw [if_pos q, q]
          · rw [if_neg q]; exact hf c (by omega))
        refine ⟨f', h1, fun X C h => ?_⟩
        have e1 : f_X1_isFree (setG T 0 f) (nI i) = frC S i := by
          unfold f_X1_isFree
          rw [setG_o (by decide), t2, has_eq (by omega)]; rfl
        have e2 : f_X1_viewFrom (setG T 0 f) (nI i) = vwF (frC S) i := by
          unfold f_X1_viewFrom frC
          rw [setG_o (by decide), t2, nI_clamp (by omega)]
        refine r_X1_findWatchers_32 C ad _ (nI i) ⟨fun q => nlt_no (a := i) (b := 64) (by decide) (by omega) q, fun _ => ⟨fun _ => ⟨i, by omega, rfl⟩, vp_in_nI (by omega) (by decide), ?_⟩⟩
        rw [e1, e2, setG_pv, nI_clamp (show i < 2 ^ 31 by omega), nI_1]
        exact h2 X C h
    obtain ⟨f', hf', hgo⟩ := fold 64 0 (T.2 0) rfl (fun c hc => absurd hc (Nat.not_lt_zero c))
    have es : srch (one1 f' (S.2 1 0)) 64 0 = srch (one1 (vwC S) (S.2 1 0)) 64 0 := srch_congr 64 0 (fun j _ hj => by unfold one1; rw [hf' j (by omega)])
    have ep : pairsC f' (S.2 1 0) 64 0 = pairsC (vwC S) (S.2 1 0) 64 0 := pairsC_congr hf' 64 0 rfl
    have e0 : (setG T 0 f').2 0 = f' := setG_k
    have e1 : (setG T 0 f').2 1 = S.2 1 := by rw [setG_o (by decide), t2]
    have single : ∀ (k i : Nat) (X : Bn), Cx X cX1_findWatchers 2 RX1 wsX1_findWatchers 3 75 → i + k = 64 → (∀ c, srch (one1 f' (S.2 1 0)) k i = some c → Ends X none none (cW X.E ad (pg (pg (setG T 0 f') 9 0 1) 10 0 (nI c)))) → (srch (one1 f' (S.2 1 0)) k i = none → Ends X none none (cW X.E ad (twS (setG T 0 f') (pairsC f' (S.2 1 0) 64 0)))) → At X 2 (cW X.E ad (setG T 0 f')) 69 [(0, .ref (ad 8)), (1, .int (nI i))] [] := by
      intro k
      induction k with
      | zero =>
        intro i X C hi F K
        have : i = 64 := by omega
        subst this
        refine r_X1_findWatchers_69 C ad _ (nI 64) ⟨fun _ => ⟨_, c_X1_findTwoWatchers ad _ _ _ _ _ _, ?_⟩, fun q => nle_no q⟩
        rw [e0, e1]
        exact K rfl
      | succ k ih =>
        intro i X C hi F K
        refine r_X1_findWatchers_69 C ad _ (nI i) ⟨fun q => nlt_no (a := i) (b := 64) (by decide) (by omega) q, fun _ => ⟨vp_in_nI (by omega) (by decide), ?_⟩⟩
        rw [e0, e1, nI_clamp (show i < 2 ^ 31 by omega)]
        rw [srch] at F K
        by_cases h : f' i = S.2 1 0
        · rw [if_pos (show one1 f' (S.2 1 0) i = true from decide_eq_true h)] at F
          exact ⟨fun _ => F i rfl, fun q => absurd h q⟩
        · have t : ¬ one1 f' (S.2 1 0) i = true := by rw [one1, decide_eq_false h]; decide
          rw [if_neg t] at F K
          refine ⟨fun q => absurd q h, fun _ => ?_⟩
          rw [nI_1]
          exact ih (i + 1) X C (by omega) F K
    have start : ∀ (X : Bn), Cx X cX1_findWatchers 2 RX1 wsX1_findWatchers 3 75 → At X 2 (cW X.E ad (setG T 0 f')) 69 [(0, .ref (ad 8)), (1, .int (nI 0))] [] → At X 2 (cW X.E ad S) 0 [(0, .ref (ad 8))] [] := by
      intro X C h
      refine r_X1_findWatchers_0 C ad S ⟨fun q => absurd q h0, fun _ => ?_⟩
      rw [hT, ← setG_self T 0]
      exact hgo X C h
    cases hs : srch (one1 (vwC S) (S.2 1 0)) 64 0 with
    | some c =>
      refine ⟨pg (pg (setG T 0 f') 9 0 1) 10 0 (nI c), ⟨?_, fun k h9 h10 h11 => ?_, fun k hk => ?_⟩, fun l D E a1 a2 => ?_⟩
      · rw [pg_o (by decide), pg_s, pg_s, pg_o (by decide), pg_o (by decide), wtC, if_neg h0, hs, setG_1, t11]
      · rw [pg_r h10, pg_r h9, setG_1]; exact tk k h9 h10 h11
      · show (setG T 0 f').2 k = _
        rw [setG_o hk, t2]
      · refine Fn.of (cc := cX1_findWatchers) (maxL := 2) (ret := none) (own := RX1) (by decide) rfl rfl (sameC _ _ _ _) (Nat.le_of_ble_eq_true rfl) (fun X q1 q2 q3 q4 q5 C hE => ?_)
        subst q1 q2 q3 q4 q5
        refine start X C (single 64 0 X C rfl (fun c2 h => ?_) (fun h => ?_))
        · rw [es, hs] at h; cases h; exact hE
        · rw [es, hs] at h; cases h
    | none =>
      cases hp : pairsC (vwC S) (S.2 1 0) 64 0 with
      | some p =>
        refine ⟨pg (pg (pg (setG T 0 f') 9 0 2) 10 0 (nI p.1)) 11 0 (nI p.2), ⟨?_, fun k h9 h10 h11 => ?_, fun k hk => ?_⟩, fun l D E a1 a2 => ?_⟩
        · rw [pg_o (by decide), pg_o (by decide), pg_s, pg_o (by decide), pg_s, pg_s, wtC, if_neg h0, hs, hp]
        · rw [pg_r h11, pg_r h10, pg_r h9, setG_1]; exact tk k h9 h10 h11
        · show (setG T 0 f').2 k = _
          rw [setG_o hk, t2]
        · refine Fn.of (cc := cX1_findWatchers) (maxL := 2) (ret := none) (own := RX1) (by decide) rfl rfl (sameC _ _ _ _) (Nat.le_of_ble_eq_true rfl) (fun X q1 q2 q3 q4 q5 C hE => ?_)
          subst q1 q2 q3 q4 q5
          refine start X C (single 64 0 X C rfl (fun c2 h => ?_) (fun h => ?_))
          · rw [es, hs] at h; cases h
          · rw [ep, hp]; exact hE
      | none =>
        refine ⟨setG T 0 f', ⟨?_, fun k h9 h10 h11 => ?_, fun k hk => ?_⟩, fun l D E a1 a2 => ?_⟩
        · rw [setG_1, t9, t10, t11, wtC, if_neg h0, hs, hp]
        · rw [setG_1]; exact tk k h9 h10 h11
        · rw [setG_o hk, t2]
        · refine Fn.of (cc := cX1_findWatchers) (maxL := 2) (ret := none) (own := RX1) (by decide) rfl rfl (sameC _ _ _ _) (Nat.le_of_ble_eq_true rfl) (fun X q1 q2 q3 q4 q5 C hE => ?_)
          subst q1 q2 q3 q4 q5
          refine start X C (single 64 0 X C rfl (fun c2 h => ?_) (fun h => ?_))
          · rw [es, hs] at h; cases h
          · rw [ep, hp]; exact hE
