set_option maxRecDepth 20000 in
theorem ggX8_comes_X8_in : GoodIn wsX8_comes wsX8_in := goodIn_r _ [9] (by decide +kernel) (by decide +kernel)
set_option maxRecDepth 20000 in
theorem gX8_comes_X8_in : GoodIn wsX8_comes (va_wsS RX8 53 yX8_in wsX8_in) := goodIn_app (goodIn_of _ (by decide +kernel)) ggX8_comes_X8_in
set_option maxRecDepth 20000 in
theorem ggX8_comes_X8_turned : GoodIn wsX8_comes wsX8_turned := goodIn_r _ [12, 13, 14, 8, 15, 16, 17, 18] (by decide +kernel) (by decide +kernel)
set_option maxRecDepth 20000 in
theorem gX8_comes_X8_turned : GoodIn wsX8_comes (va_wsS RX8 132 yX8_turned wsX8_turned) := goodIn_app (goodIn_of _ (by decide +kernel)) ggX8_comes_X8_turned
set_option maxRecDepth 20000 in
theorem ggX8_comes_X8_canStand : GoodIn wsX8_comes wsX8_canStand := goodIn_r _ [22, 23, 16, 17, 8, 18, 24, 25, 26, 27, 28, 29, 30, 31, 32, 33, 34, 35, 36, 37, 38, 39, 40, 41, 42, 43, 44] (by decide +kernel) (by decide +kernel)
set_option maxRecDepth 20000 in
theorem gX8_comes_X8_canStand : GoodIn wsX8_comes (wsV RX8 192 RX8 yX8_canStand wsX8_canStand) := goodIn_app (goodIn_of _ (by decide +kernel)) ggX8_comes_X8_canStand
theorem dX8_comes_0 : decode cX8_comes 0 = .ok (.iload_n 3, 1) := by decide +kernel
theorem dX8_comes_1 : decode cX8_comes 1 = .ok (.i2l, 1) := by decide +kernel
theorem dX8_comes_2 : decode cX8_comes 2 = .ok (.lconst 0, 1) := by decide +kernel
theorem dX8_comes_3 : decode cX8_comes 3 = .ok (.ldc2_w 195, 3) := by decide +kernel
theorem dX8_comes_6 : decode cX8_comes 6 = .ok (.invokestatic 53, 3) := by decide +kernel
theorem dX8_comes_9 : decode cX8_comes 9 = .ok (.ifCond .eq 95, 3) := by decide +kernel
theorem dX8_comes_12 : decode cX8_comes 12 = .ok (.iload 4, 2) := by decide +kernel
theorem dX8_comes_14 : decode cX8_comes 14 = .ok (.i2l, 1) := by decide +kernel
theorem dX8_comes_15 : decode cX8_comes 15 = .ok (.lconst 0, 1) := by decide +kernel
theorem dX8_comes_16 : decode cX8_comes 16 = .ok (.ldc2_w 195, 3) := by decide +kernel
theorem dX8_comes_19 : decode cX8_comes 19 = .ok (.invokestatic 53, 3) := by decide +kernel
theorem dX8_comes_22 : decode cX8_comes 22 = .ok (.ifCond .eq 82, 3) := by decide +kernel
theorem dX8_comes_25 : decode cX8_comes 25 = .ok (.bipush 64, 2) := by decide +kernel
theorem dX8_comes_27 : decode cX8_comes 27 = .ok (.iload_n 2, 1) := by decide +kernel
theorem dX8_comes_28 : decode cX8_comes 28 = .ok (.imul, 1) := by decide +kernel
theorem dX8_comes_29 : decode cX8_comes 29 = .ok (.bipush 8, 2) := by decide +kernel
theorem dX8_comes_31 : decode cX8_comes 31 = .ok (.iload_n 3, 1) := by decide +kernel
theorem dX8_comes_32 : decode cX8_comes 32 = .ok (.imul, 1) := by decide +kernel
theorem dX8_comes_33 : decode cX8_comes 33 = .ok (.iadd, 1) := by decide +kernel
theorem dX8_comes_34 : decode cX8_comes 34 = .ok (.iload 4, 2) := by decide +kernel
theorem dX8_comes_36 : decode cX8_comes 36 = .ok (.iadd, 1) := by decide +kernel
theorem dX8_comes_37 : decode cX8_comes 37 = .ok (.istore 6, 2) := by decide +kernel
theorem dX8_comes_39 : decode cX8_comes 39 = .ok (.aload_n 0, 1) := by decide +kernel
theorem dX8_comes_40 : decode cX8_comes 40 = .ok (.getfield 35, 3) := by decide +kernel
theorem dX8_comes_43 : decode cX8_comes 43 = .ok (.iload 6, 2) := by decide +kernel
theorem dX8_comes_45 : decode cX8_comes 45 = .ok (.iaload, 1) := by decide +kernel
theorem dX8_comes_46 : decode cX8_comes 46 = .ok (.iconst (-1), 1) := by decide +kernel
theorem dX8_comes_47 : decode cX8_comes 47 = .ok (.if_icmp .ne 57, 3) := by decide +kernel
theorem dX8_comes_50 : decode cX8_comes 50 = .ok (.aload_n 0, 1) := by decide +kernel
theorem dX8_comes_51 : decode cX8_comes 51 = .ok (.aload_n 0, 1) := by decide +kernel
theorem dX8_comes_52 : decode cX8_comes 52 = .ok (.getfield 28, 3) := by decide +kernel
theorem dX8_comes_55 : decode cX8_comes 55 = .ok (.iload_n 1, 1) := by decide +kernel
theorem dX8_comes_56 : decode cX8_comes 56 = .ok (.iaload, 1) := by decide +kernel
theorem dX8_comes_57 : decode cX8_comes 57 = .ok (.iload_n 2, 1) := by decide +kernel
theorem dX8_comes_58 : decode cX8_comes 58 = .ok (.invokestatic 132, 3) := by decide +kernel
theorem dX8_comes_61 : decode cX8_comes 61 = .ok (.bipush 8, 2) := by decide +kernel
theorem dX8_comes_63 : decode cX8_comes 63 = .ok (.iload_n 3, 1) := by decide +kernel
theorem dX8_comes_64 : decode cX8_comes 64 = .ok (.imul, 1) := by decide +kernel
theorem dX8_comes_65 : decode cX8_comes 65 = .ok (.iload 4, 2) := by decide +kernel
theorem dX8_comes_67 : decode cX8_comes 67 = .ok (.iadd, 1) := by decide +kernel
theorem dX8_comes_68 : decode cX8_comes 68 = .ok (.invokevirtual 192, 3) := by decide +kernel
theorem dX8_comes_71 : decode cX8_comes 71 = .ok (.ifCond .eq 33, 3) := by decide +kernel
theorem dX8_comes_74 : decode cX8_comes 74 = .ok (.aload_n 0, 1) := by decide +kernel
theorem dX8_comes_75 : decode cX8_comes 75 = .ok (.getfield 35, 3) := by decide +kernel
theorem dX8_comes_78 : decode cX8_comes 78 = .ok (.iload 6, 2) := by decide +kernel
theorem dX8_comes_80 : decode cX8_comes 80 = .ok (.iload 5, 2) := by decide +kernel
theorem dX8_comes_82 : decode cX8_comes 82 = .ok (.iastore, 1) := by decide +kernel
theorem dX8_comes_83 : decode cX8_comes 83 = .ok (.aload_n 0, 1) := by decide +kernel
theorem dX8_comes_84 : decode cX8_comes 84 = .ok (.getfield 38, 3) := by decide +kernel
theorem dX8_comes_87 : decode cX8_comes 87 = .ok (.aload_n 0, 1) := by decide +kernel
theorem dX8_comes_88 : decode cX8_comes 88 = .ok (.getfield 197, 3) := by decide +kernel
theorem dX8_comes_91 : decode cX8_comes 91 = .ok (.iload 6, 2) := by decide +kernel
theorem dX8_comes_93 : decode cX8_comes 93 = .ok (.iastore, 1) := by decide +kernel
theorem dX8_comes_94 : decode cX8_comes 94 = .ok (.aload_n 0, 1) := by decide +kernel
theorem dX8_comes_95 : decode cX8_comes 95 = .ok (.dup, 1) := by decide +kernel
theorem dX8_comes_96 : decode cX8_comes 96 = .ok (.getfield 197, 3) := by decide +kernel
theorem dX8_comes_99 : decode cX8_comes 99 = .ok (.iconst 1, 1) := by decide +kernel
theorem dX8_comes_100 : decode cX8_comes 100 = .ok (.iadd, 1) := by decide +kernel
theorem dX8_comes_101 : decode cX8_comes 101 = .ok (.putfield 197, 3) := by decide +kernel
theorem dX8_comes_104 : decode cX8_comes 104 = .ok (.return_, 1) := by decide +kernel
theorem iw_X8_comes_X8 : ∀ w ∈ u_ws RX8 TX8 18, w ∈ wsX8_comes := by decide +kernel
theorem lk_X8_comes_0 : Cond.constantLong RX8 195 7 ∈ wsX8_comes := by decide +kernel
theorem lk_X8_comes_1 : Cond.fieldLink RX8 35 (TX8 11).1 (TX8 11).2.1 (TX8 11).2.2.1 ∈ wsX8_comes := by decide +kernel
theorem lk_X8_comes_2 : Cond.fieldLink RX8 28 (TX8 9).1 (TX8 9).2.1 (TX8 9).2.2.1 ∈ wsX8_comes := by decide +kernel
theorem lk_X8_comes_3 : Cond.fieldLink RX8 38 (TX8 12).1 (TX8 12).2.1 (TX8 12).2.2.1 ∈ wsX8_comes := by decide +kernel
theorem lk_X8_comes_4 : Cond.fieldLink RX8 197 (TX8 13).1 (TX8 13).2.1 (TX8 13).2.2.1 ∈ wsX8_comes := by decide +kernel
set_option maxRecDepth 100000 in
theorem r_X8_comes_0 {X : Bn} (C : Cx X cX8_comes 7 RX8 wsX8_comes 3 67) (ad : Nat → Nat) (S : MS) (x1 : Int32) (x2 : Int32) (x3 : Int32) (x4 : Int32) (x5 : Int32) (h : ((((f_X8_in x3.toInt64 (0 : Int64) (7 : Int64)) = true) → (((f_X8_in x4.toInt64 (0 : Int64) (7 : Int64)) = true) → (vp_in (((64 * x2) + (8 * x3)) + x4) 256) ∧ ((S.1 11 ((((64 * x2) + (8 * x3)) + x4).toNatClampNeg) = (-1)) → (vp_in x1 8) ∧ (p_X8_canStand ((8 * x3) + x4)) ∧ (((f_X8_canStand S (f_X8_turned (S.1 9 x1.toNatClampNeg) x2) ((8 * x3) + x4)) = true) → (vp_in (((64 * x2) + (8 * x3)) + x4) 256) ∧ (vp_in (S.1 13 0) 256)))))) ∧ (Ends X (none) none (mW X.E ad (if (f_X8_in x3.toInt64 (0 : Int64) (7 : Int64)) then (if (f_X8_in x4.toInt64 (0 : Int64) (7 : Int64)) then (if S.1 11 ((((64 * x2) + (8 * x3)) + x4).toNatClampNeg) = (-1) then (if (f_X8_canStand S (f_X8_turned (S.1 9 x1.toNatClampNeg) x2) ((8 * x3) + x4)) then (pg (pg (pg S 11 ((((64 * x2) + (8 * x3)) + x4).toNatClampNeg) x5) 12 ((S.1 13 0).toNatClampNeg) (((64 * x2) + (8 * x3)) + x4)) 13 0 ((S.1 13 0) + 1)) else S) else S) else S) else S)))) : At X 7 (mW X.E ad S) 0 [(0, .ref (ad 0)), (1, .int x1), (2, .int x2), (3, .int x3), (4, .int x4), (5, .int x5)] [] := by
  refine at_iload_n C dX8_comes_0 rfl (j := 3) rfl ?_
  refine at_i2l C dX8_comes_1 ?_
  refine at_lconst C dX8_comes_2 (v := 0) rfl ?_
  refine at_ldc2 C lk_X8_comes_0 dX8_comes_3 ?_
  refine at_cS0 C 3 (c_X8_in X.l X.D X.E X.a1 X.a2 x3.toInt64 (0 : Int64) (7 : Int64)) gX8_comes_X8_in rfl (by decide +kernel) ⟨rfl, rfl⟩ rfl rfl rfl dX8_comes_6 ?_
  have hq := h.1
  replace h := h.2
  have K : At X 7 (mW X.E ad (if (f_X8_in x3.toInt64 (0 : Int64) (7 : Int64)) then (if (f_X8_in x4.toInt64 (0 : Int64) (7 : Int64)) then (if S.1 11 ((((64 * x2) + (8 * x3)) + x4).toNatClampNeg) = (-1) then (if (f_X8_canStand S (f_X8_turned (S.1 9 x1.toNatClampNeg) x2) ((8 * x3) + x4)) then (pg (pg (pg S 11 ((((64 * x2) + (8 * x3)) + x4).toNatClampNeg) x5) 12 ((S.1 13 0).toNatClampNeg) (((64 * x2) + (8 * x3)) + x4)) 13 0 ((S.1 13 0) + 1)) else S) else S) else S) else S)) 104 [] [] := by
    exact at_vret C dX8_comes_104 h
  replace h := hq
  refine at_ifB_eq C dX8_comes_9 (tgt := 104) (by decide) (fun hc0 => ?_) (fun hc0 => ?_)
  · skip
    refine at_lv [] rfl ?_
    first | (simp only [if_neg (show ¬ (f_X8_in x3.toInt64 (0 : Int64) (7 : Int64)) = true by rw [hc0]; decide)] at K; exact K) | exact K
  · replace h := h hc0
    refine at_iload C dX8_comes_12 (j := 4) rfl ?_
    refine at_i2l C dX8_comes_14 ?_
    refine at_lconst C dX8_comes_15 (v := 0) rfl ?_
    refine at_ldc2 C lk_X8_comes_0 dX8_comes_16 ?_
    refine at_cS0 C 3 (c_X8_in X.l X.D X.E X.a1 X.a2 x4.toInt64 (0 : Int64) (7 : Int64)) gX8_comes_X8_in rfl (by decide +kernel) ⟨rfl, rfl⟩ rfl rfl rfl dX8_comes_19 ?_
    refine at_ifB_eq C dX8_comes_22 (tgt := 104) (by decide) (fun hc1 => ?_) (fun hc1 => ?_)
    · skip
      refine at_lv [] rfl ?_
      first | (simp only [if_pos hc0, if_neg (show ¬ (f_X8_in x4.toInt64 (0 : Int64) (7 : Int64)) = true by rw [hc1]; decide)] at K; exact K) | exact K
    · replace h := h hc1
      refine at_bipush C dX8_comes_25 (v := 64) rfl ?_
      refine at_iload_n C dX8_comes_27 rfl (j := 2) rfl ?_
      refine at_imul C dX8_comes_28 ?_
      refine at_bipush C dX8_comes_29 (v := 8) rfl ?_
      refine at_iload_n C dX8_comes_31 rfl (j := 3) rfl ?_
      refine at_imul C dX8_comes_32 ?_
      refine at_iadd C dX8_comes_33 ?_
      refine at_iload C dX8_comes_34 (j := 4) rfl ?_
      refine at_iadd C dX8_comes_36 ?_
      refine at_istore C dX8_comes_37 (by decide) (lv' := [(6, .int (((64 * x2) + (8 * x3)) + x4)), (0, .ref (ad 0)), (1, .int x1), (2, .int x2), (3, .int x3), (4, .int x4), (5, .int x5)]) rfl ?_
      refine at_aload_n C dX8_comes_39 rfl (j := 1) rfl ?_
      refine at_get C (K := RX8) (T := TX8) (N := 18) (ci := 7) (v := .ref (ad 9)) iw_X8_comes_X8 0 mW_c0 rfl 11 (by decide) lk_X8_comes_1 rfl dX8_comes_40 ?_
      refine at_iload C dX8_comes_43 (j := 0) rfl ?_
      refine at_iald C 9 mW_c9 h.1 dX8_comes_45 ?_
      replace h := h.2
      refine at_iconst C dX8_comes_46 (v := (-1)) rfl ?_
      refine at_icmp_ne C dX8_comes_47 (tgt := 104) (by decide) (fun hc2 => ?_) (fun hc2 => ?_)
      · skip
        refine at_lv [] rfl ?_
        first | (simp only [if_pos hc0, if_pos hc1, if_neg hc2] at K; exact K) | exact K
      · replace h := h hc2
        refine at_aload_n C dX8_comes_50 rfl (j := 1) rfl ?_
        refine at_aload_n C dX8_comes_51 rfl (j := 1) rfl ?_
        refine at_get C (K := RX8) (T := TX8) (N := 18) (ci := 7) (v := .ref (ad 7)) iw_X8_comes_X8 0 mW_c0 rfl 9 (by decide) lk_X8_comes_2 rfl dX8_comes_52 ?_
        refine at_iload_n C dX8_comes_55 rfl (j := 2) rfl ?_
        refine at_iald C 7 mW_c7 h.1 dX8_comes_56 ?_
        replace h := h.2
        refine at_iload_n C dX8_comes_57 rfl (j := 3) rfl ?_
        refine at_cS0 C 2 (c_X8_turned X.l X.D X.E X.a1 X.a2 (S.1 9 x1.toNatClampNeg) x2) gX8_comes_X8_turned rfl (by decide +kernel) ⟨rfl, rfl⟩ rfl rfl rfl dX8_comes_58 ?_
        refine at_bipush C dX8_comes_61 (v := 8) rfl ?_
        refine at_iload_n C dX8_comes_63 rfl (j := 4) rfl ?_
        refine at_imul C dX8_comes_64 ?_
        refine at_iload C dX8_comes_65 (j := 5) rfl ?_
        refine at_iadd C dX8_comes_67 ?_
        refine at_cV1 C 2 (c_X8_canStand X.l X.D X.E X.a1 X.a2 ad S (f_X8_turned (S.1 9 x1.toNatClampNeg) x2) ((8 * x3) + x4) h.1) gX8_comes_X8_canStand rfl (by decide +kernel) ⟨rfl, rfl⟩ rfl rfl rfl 0 mW_c0 rfl dX8_comes_68 ?_
        replace h := h.2
        refine at_ifB_eq C dX8_comes_71 (tgt := 104) (by decide) (fun hc3 => ?_) (fun hc3 => ?_)
        · skip
          refine at_lv [] rfl ?_
          first | (simp only [if_pos hc0, if_pos hc1, if_pos hc2, if_neg (show ¬ (f_X8_canStand S (f_X8_turned (S.1 9 x1.toNatClampNeg) x2) ((8 * x3) + x4)) = true by rw [hc3]; decide)] at K; exact K) | exact K
        · replace h := h hc3
          refine at_aload_n C dX8_comes_74 rfl (j := 1) rfl ?_
          refine at_get C (K := RX8) (T := TX8) (N := 18) (ci := 7) (v := .ref (ad 9)) iw_X8_comes_X8 0 mW_c0 rfl 11 (by decide) lk_X8_comes_1 rfl dX8_comes_75 ?_
          refine at_iload C dX8_comes_78 (j := 0) rfl ?_
          refine at_iload C dX8_comes_80 (j := 6) rfl ?_
          refine at_iast C 9 mW_c9 h.1 mW_s9 dX8_comes_82 ?_
          replace h := h.2
          refine at_aload_n C dX8_comes_83 rfl (j := 1) rfl ?_
          refine at_get C (K := RX8) (T := TX8) (N := 18) (ci := 7) (v := .ref (ad 10)) iw_X8_comes_X8 0 mW_c0 rfl 12 (by decide) lk_X8_comes_3 rfl dX8_comes_84 ?_
          refine at_aload_n C dX8_comes_87 rfl (j := 1) rfl ?_
          refine at_get C (K := RX8) (T := TX8) (N := 18) (ci := 7) (v := .int ((pg S 11 ((((64 * x2) + (8 * x3)) + x4).toNatClampNeg) x5).1 13 0)) iw_X8_comes_X8 0 mW_c0 rfl 13 (by decide) lk_X8_comes_4 rfl dX8_comes_88 ?_
          refine at_topI (pg_o (by decide)) ?_
          refine at_iload C dX8_comes_91 (j := 0) rfl ?_
          refine at_iast C 10 mW_c10 h mW_s10 dX8_comes_93 ?_
          refine at_aload_n C dX8_comes_94 rfl (j := 1) rfl ?_
          refine at_dup C dX8_comes_95 rfl ?_
          refine at_get C (K := RX8) (T := TX8) (N := 18) (ci := 7) (v := .int ((pg (pg S 11 ((((64 * x2) + (8 * x3)) + x4).toNatClampNeg) x5) 12 ((S.1 13 0).toNatClampNeg) (((64 * x2) + (8 * x3)) + x4)).1 13 0)) iw_X8_comes_X8 0 mW_c0 rfl 13 (by decide) lk_X8_comes_4 rfl dX8_comes_96 ?_
          refine at_topI ((pg_o (by decide)).trans (pg_o (by decide))) ?_
          refine at_iconst C dX8_comes_99 (v := 1) rfl ?_
          refine at_iadd C dX8_comes_100 ?_
          refine at_put C (K := RX8) (T := TX8) (N := 18) (ci := 7) (ty := .int) iw_X8_comes_X8 tyX8 tyX8_ok nmX8 0 mW_c0 rfl 13 (by decide) lk_X8_comes_4 rfl rfl rfl rfl (Nat.le_of_ble_eq_true rfl) mW_f0_13 dX8_comes_101 ?_
          refine at_lv [] rfl ?_
          first | (simp only [if_pos hc0, if_pos hc1, if_pos hc2, if_pos hc3] at K; exact K) | exact K
def s_X8_comes (S : MS) (x1 : Int32) (x2 : Int32) (x3 : Int32) (x4 : Int32) (x5 : Int32) : MS := (if (f_X8_in x3.toInt64 (0 : Int64) (7 : Int64)) then (if (f_X8_in x4.toInt64 (0 : Int64) (7 : Int64)) then (if S.1 11 ((((64 * x2) + (8 * x3)) + x4).toNatClampNeg) = (-1) then (if (f_X8_canStand S (f_X8_turned (S.1 9 x1.toNatClampNeg) x2) ((8 * x3) + x4)) then (pg (pg (pg S 11 ((((64 * x2) + (8 * x3)) + x4).toNatClampNeg) x5) 12 ((S.1 13 0).toNatClampNeg) (((64 * x2) + (8 * x3)) + x4)) 13 0 ((S.1 13 0) + 1)) else S) else S) else S) else S)
def p_X8_comes (S : MS) (x1 : Int32) (x2 : Int32) (x3 : Int32) (x4 : Int32) (x5 : Int32) : Prop := ((((f_X8_in x3.toInt64 (0 : Int64) (7 : Int64)) = true) → (((f_X8_in x4.toInt64 (0 : Int64) (7 : Int64)) = true) → (vp_in (((64 * x2) + (8 * x3)) + x4) 256) ∧ ((S.1 11 ((((64 * x2) + (8 * x3)) + x4).toNatClampNeg) = (-1)) → (vp_in x1 8) ∧ (p_X8_canStand ((8 * x3) + x4)) ∧ (((f_X8_canStand S (f_X8_turned (S.1 9 x1.toNatClampNeg) x2) ((8 * x3) + x4)) = true) → (vp_in (((64 * x2) + (8 * x3)) + x4) 256) ∧ (vp_in (S.1 13 0) 256))))))
set_option maxRecDepth 100000 in
theorem c_X8_comes (l : Launch) (D : va_G) (E : Nat → ClassId) (a1 a2 : Nat) (ad : Nat → Nat) (S : MS) (x1 : Int32) (x2 : Int32) (x3 : Int32) (x4 : Int32) (x5 : Int32) (hp : p_X8_comes S x1 x2 x3 x4 x5) : Fn l D E a1 a2 yX8_comes wsX8_comes 3 67 [.ref (ad 0), .int x1, .int x2, .int x3, .int x4, .int x5] (mW E ad S) none (mW E ad (s_X8_comes S x1 x2 x3 x4 x5)) := by
  refine Fn.of (cc := cX8_comes) (maxL := 7) (ret := none) (own := RX8) (by decide) rfl rfl (sameM _ _ _ _) (Nat.le_of_ble_eq_true rfl) (fun X h1 h2 h3 h4 h5 C hE => ?_)
  subst h1 h2 h3 h4 h5
  refine r_X8_comes_0 C ad S x1 x2 x3 x4 x5 ?_
  refine ⟨hp, ?_⟩
  simp only [s_X8_comes] at hE
  exact hE
set_option maxRecDepth 20000 in
theorem ggX8_findFar_X8_comes : GoodIn wsX8_findFar wsX8_comes := goodIn_r _ [8, 9, 1, 10, 3, 2, 11, 12, 7, 13, 14, 15, 16, 17, 18, 19, 20, 21, 22, 23, 24, 25, 26, 27, 28, 29, 30, 31, 32, 33, 34, 35, 36, 37, 38, 39, 40, 41, 42, 43, 44, 45, 46, 47, 48] (by decide +kernel) (by decide +kernel)
set_option maxRecDepth 20000 in
theorem gX8_findFar_X8_comes : GoodIn wsX8_findFar (wsV RX8 200 RX8 yX8_comes wsX8_comes) := goodIn_app (goodIn_of _ (by decide +kernel)) ggX8_findFar_X8_comes
theorem dX8_findFar_0 : decode cX8_findFar 0 = .ok (.iconst 0, 1) := by decide +kernel
theorem dX8_findFar_1 : decode cX8_findFar 1 = .ok (.istore 4, 2) := by decide +kernel
theorem dX8_findFar_3 : decode cX8_findFar 3 = .ok (.iload 4, 2) := by decide +kernel
theorem dX8_findFar_5 : decode cX8_findFar 5 = .ok (.sipush 256, 3) := by decide +kernel
theorem dX8_findFar_8 : decode cX8_findFar 8 = .ok (.if_icmp .ge 17, 3) := by decide +kernel
theorem dX8_findFar_11 : decode cX8_findFar 11 = .ok (.aload_n 0, 1) := by decide +kernel
theorem dX8_findFar_12 : decode cX8_findFar 12 = .ok (.getfield 35, 3) := by decide +kernel
theorem dX8_findFar_15 : decode cX8_findFar 15 = .ok (.iload 4, 2) := by decide +kernel
theorem dX8_findFar_17 : decode cX8_findFar 17 = .ok (.iconst (-1), 1) := by decide +kernel
theorem dX8_findFar_18 : decode cX8_findFar 18 = .ok (.iastore, 1) := by decide +kernel
theorem dX8_findFar_19 : decode cX8_findFar 19 = .ok (.iinc 4 1, 3) := by decide +kernel
theorem dX8_findFar_22 : decode cX8_findFar 22 = .ok (.goto (-19), 3) := by decide +kernel
theorem dX8_findFar_25 : decode cX8_findFar 25 = .ok (.aload_n 0, 1) := by decide +kernel
theorem dX8_findFar_26 : decode cX8_findFar 26 = .ok (.iconst 0, 1) := by decide +kernel
theorem dX8_findFar_27 : decode cX8_findFar 27 = .ok (.putfield 197, 3) := by decide +kernel
theorem dX8_findFar_30 : decode cX8_findFar 30 = .ok (.aload_n 0, 1) := by decide +kernel
theorem dX8_findFar_31 : decode cX8_findFar 31 = .ok (.iload_n 1, 1) := by decide +kernel
theorem dX8_findFar_32 : decode cX8_findFar 32 = .ok (.iload_n 2, 1) := by decide +kernel
theorem dX8_findFar_33 : decode cX8_findFar 33 = .ok (.iload_n 3, 1) := by decide +kernel
theorem dX8_findFar_34 : decode cX8_findFar 34 = .ok (.bipush 8, 2) := by decide +kernel
theorem dX8_findFar_36 : decode cX8_findFar 36 = .ok (.idiv, 1) := by decide +kernel
theorem dX8_findFar_37 : decode cX8_findFar 37 = .ok (.iload_n 3, 1) := by decide +kernel
theorem dX8_findFar_38 : decode cX8_findFar 38 = .ok (.bipush 8, 2) := by decide +kernel
theorem dX8_findFar_40 : decode cX8_findFar 40 = .ok (.irem, 1) := by decide +kernel
theorem dX8_findFar_41 : decode cX8_findFar 41 = .ok (.iconst 0, 1) := by decide +kernel
theorem dX8_findFar_42 : decode cX8_findFar 42 = .ok (.invokevirtual 200, 3) := by decide +kernel
theorem dX8_findFar_45 : decode cX8_findFar 45 = .ok (.iconst 0, 1) := by decide +kernel
theorem dX8_findFar_46 : decode cX8_findFar 46 = .ok (.istore 4, 2) := by decide +kernel
theorem dX8_findFar_48 : decode cX8_findFar 48 = .ok (.iload 4, 2) := by decide +kernel
theorem dX8_findFar_50 : decode cX8_findFar 50 = .ok (.aload_n 0, 1) := by decide +kernel
theorem dX8_findFar_51 : decode cX8_findFar 51 = .ok (.getfield 197, 3) := by decide +kernel
theorem dX8_findFar_54 : decode cX8_findFar 54 = .ok (.if_icmp .ge 158, 3) := by decide +kernel
theorem dX8_findFar_57 : decode cX8_findFar 57 = .ok (.aload_n 0, 1) := by decide +kernel
theorem dX8_findFar_58 : decode cX8_findFar 58 = .ok (.getfield 38, 3) := by decide +kernel
theorem dX8_findFar_61 : decode cX8_findFar 61 = .ok (.iload 4, 2) := by decide +kernel
theorem dX8_findFar_63 : decode cX8_findFar 63 = .ok (.iaload, 1) := by decide +kernel
theorem dX8_findFar_64 : decode cX8_findFar 64 = .ok (.bipush 64, 2) := by decide +kernel
theorem dX8_findFar_66 : decode cX8_findFar 66 = .ok (.idiv, 1) := by decide +kernel
theorem dX8_findFar_67 : decode cX8_findFar 67 = .ok (.istore 5, 2) := by decide +kernel
theorem dX8_findFar_69 : decode cX8_findFar 69 = .ok (.aload_n 0, 1) := by decide +kernel
theorem dX8_findFar_70 : decode cX8_findFar 70 = .ok (.getfield 38, 3) := by decide +kernel
theorem dX8_findFar_73 : decode cX8_findFar 73 = .ok (.iload 4, 2) := by decide +kernel
theorem dX8_findFar_75 : decode cX8_findFar 75 = .ok (.iaload, 1) := by decide +kernel
theorem dX8_findFar_76 : decode cX8_findFar 76 = .ok (.bipush 64, 2) := by decide +kernel
theorem dX8_findFar_78 : decode cX8_findFar 78 = .ok (.irem, 1) := by decide +kernel
theorem dX8_findFar_79 : decode cX8_findFar 79 = .ok (.bipush 8, 2) := by decide +kernel
theorem dX8_findFar_81 : decode cX8_findFar 81 = .ok (.idiv, 1) := by decide +kernel
theorem dX8_findFar_82 : decode cX8_findFar 82 = .ok (.istore 6, 2) := by decide +kernel
theorem dX8_findFar_84 : decode cX8_findFar 84 = .ok (.aload_n 0, 1) := by decide +kernel
theorem dX8_findFar_85 : decode cX8_findFar 85 = .ok (.getfield 38, 3) := by decide +kernel
theorem dX8_findFar_88 : decode cX8_findFar 88 = .ok (.iload 4, 2) := by decide +kernel
theorem dX8_findFar_90 : decode cX8_findFar 90 = .ok (.iaload, 1) := by decide +kernel
theorem dX8_findFar_91 : decode cX8_findFar 91 = .ok (.bipush 8, 2) := by decide +kernel
theorem dX8_findFar_93 : decode cX8_findFar 93 = .ok (.irem, 1) := by decide +kernel
theorem dX8_findFar_94 : decode cX8_findFar 94 = .ok (.istore 7, 2) := by decide +kernel
theorem dX8_findFar_96 : decode cX8_findFar 96 = .ok (.aload_n 0, 1) := by decide +kernel
theorem dX8_findFar_97 : decode cX8_findFar 97 = .ok (.getfield 35, 3) := by decide +kernel
theorem dX8_findFar_100 : decode cX8_findFar 100 = .ok (.aload_n 0, 1) := by decide +kernel
theorem dX8_findFar_101 : decode cX8_findFar 101 = .ok (.getfield 38, 3) := by decide +kernel
theorem dX8_findFar_104 : decode cX8_findFar 104 = .ok (.iload 4, 2) := by decide +kernel
theorem dX8_findFar_106 : decode cX8_findFar 106 = .ok (.iaload, 1) := by decide +kernel
theorem dX8_findFar_107 : decode cX8_findFar 107 = .ok (.iaload, 1) := by decide +kernel
theorem dX8_findFar_108 : decode cX8_findFar 108 = .ok (.iconst 1, 1) := by decide +kernel
theorem dX8_findFar_109 : decode cX8_findFar 109 = .ok (.iadd, 1) := by decide +kernel
theorem dX8_findFar_110 : decode cX8_findFar 110 = .ok (.istore 8, 2) := by decide +kernel
theorem dX8_findFar_112 : decode cX8_findFar 112 = .ok (.aload_n 0, 1) := by decide +kernel
theorem dX8_findFar_113 : decode cX8_findFar 113 = .ok (.iload_n 1, 1) := by decide +kernel
theorem dX8_findFar_114 : decode cX8_findFar 114 = .ok (.iload 5, 2) := by decide +kernel
theorem dX8_findFar_116 : decode cX8_findFar 116 = .ok (.iload 6, 2) := by decide +kernel
theorem dX8_findFar_118 : decode cX8_findFar 118 = .ok (.iconst 1, 1) := by decide +kernel
theorem dX8_findFar_119 : decode cX8_findFar 119 = .ok (.isub, 1) := by decide +kernel
theorem dX8_findFar_120 : decode cX8_findFar 120 = .ok (.iload 7, 2) := by decide +kernel
theorem dX8_findFar_122 : decode cX8_findFar 122 = .ok (.iload 8, 2) := by decide +kernel
theorem dX8_findFar_124 : decode cX8_findFar 124 = .ok (.invokevirtual 200, 3) := by decide +kernel
theorem dX8_findFar_127 : decode cX8_findFar 127 = .ok (.aload_n 0, 1) := by decide +kernel
theorem dX8_findFar_128 : decode cX8_findFar 128 = .ok (.iload_n 1, 1) := by decide +kernel
theorem dX8_findFar_129 : decode cX8_findFar 129 = .ok (.iload 5, 2) := by decide +kernel
theorem dX8_findFar_131 : decode cX8_findFar 131 = .ok (.iload 6, 2) := by decide +kernel
theorem dX8_findFar_133 : decode cX8_findFar 133 = .ok (.iload 7, 2) := by decide +kernel
theorem dX8_findFar_135 : decode cX8_findFar 135 = .ok (.iconst 1, 1) := by decide +kernel
theorem dX8_findFar_136 : decode cX8_findFar 136 = .ok (.iadd, 1) := by decide +kernel
theorem dX8_findFar_137 : decode cX8_findFar 137 = .ok (.iload 8, 2) := by decide +kernel
theorem dX8_findFar_139 : decode cX8_findFar 139 = .ok (.invokevirtual 200, 3) := by decide +kernel
theorem dX8_findFar_142 : decode cX8_findFar 142 = .ok (.aload_n 0, 1) := by decide +kernel
theorem dX8_findFar_143 : decode cX8_findFar 143 = .ok (.iload_n 1, 1) := by decide +kernel
theorem dX8_findFar_144 : decode cX8_findFar 144 = .ok (.iload 5, 2) := by decide +kernel
theorem dX8_findFar_146 : decode cX8_findFar 146 = .ok (.iload 6, 2) := by decide +kernel
theorem dX8_findFar_148 : decode cX8_findFar 148 = .ok (.iconst 1, 1) := by decide +kernel
theorem dX8_findFar_149 : decode cX8_findFar 149 = .ok (.iadd, 1) := by decide +kernel
theorem dX8_findFar_150 : decode cX8_findFar 150 = .ok (.iload 7, 2) := by decide +kernel
theorem dX8_findFar_152 : decode cX8_findFar 152 = .ok (.iload 8, 2) := by decide +kernel
theorem dX8_findFar_154 : decode cX8_findFar 154 = .ok (.invokevirtual 200, 3) := by decide +kernel
theorem dX8_findFar_157 : decode cX8_findFar 157 = .ok (.aload_n 0, 1) := by decide +kernel
theorem dX8_findFar_158 : decode cX8_findFar 158 = .ok (.iload_n 1, 1) := by decide +kernel
theorem dX8_findFar_159 : decode cX8_findFar 159 = .ok (.iload 5, 2) := by decide +kernel
theorem dX8_findFar_161 : decode cX8_findFar 161 = .ok (.iload 6, 2) := by decide +kernel
theorem dX8_findFar_163 : decode cX8_findFar 163 = .ok (.iload 7, 2) := by decide +kernel
theorem dX8_findFar_165 : decode cX8_findFar 165 = .ok (.iconst 1, 1) := by decide +kernel
theorem dX8_findFar_166 : decode cX8_findFar 166 = .ok (.isub, 1) := by decide +kernel
theorem dX8_findFar_167 : decode cX8_findFar 167 = .ok (.iload 8, 2) := by decide +kernel
theorem dX8_findFar_169 : decode cX8_findFar 169 = .ok (.invokevirtual 200, 3) := by decide +kernel
theorem dX8_findFar_172 : decode cX8_findFar 172 = .ok (.aload_n 0, 1) := by decide +kernel
theorem dX8_findFar_173 : decode cX8_findFar 173 = .ok (.iload_n 1, 1) := by decide +kernel
theorem dX8_findFar_174 : decode cX8_findFar 174 = .ok (.iload 5, 2) := by decide +kernel
theorem dX8_findFar_176 : decode cX8_findFar 176 = .ok (.iconst 1, 1) := by decide +kernel
theorem dX8_findFar_177 : decode cX8_findFar 177 = .ok (.iadd, 1) := by decide +kernel
theorem dX8_findFar_178 : decode cX8_findFar 178 = .ok (.iconst 4, 1) := by decide +kernel
theorem dX8_findFar_179 : decode cX8_findFar 179 = .ok (.irem, 1) := by decide +kernel
theorem dX8_findFar_180 : decode cX8_findFar 180 = .ok (.iload 6, 2) := by decide +kernel
theorem dX8_findFar_182 : decode cX8_findFar 182 = .ok (.iload 7, 2) := by decide +kernel
theorem dX8_findFar_184 : decode cX8_findFar 184 = .ok (.iload 8, 2) := by decide +kernel
theorem dX8_findFar_186 : decode cX8_findFar 186 = .ok (.invokevirtual 200, 3) := by decide +kernel
theorem dX8_findFar_189 : decode cX8_findFar 189 = .ok (.aload_n 0, 1) := by decide +kernel
theorem dX8_findFar_190 : decode cX8_findFar 190 = .ok (.iload_n 1, 1) := by decide +kernel
theorem dX8_findFar_191 : decode cX8_findFar 191 = .ok (.iload 5, 2) := by decide +kernel
theorem dX8_findFar_193 : decode cX8_findFar 193 = .ok (.iconst 3, 1) := by decide +kernel
theorem dX8_findFar_194 : decode cX8_findFar 194 = .ok (.iadd, 1) := by decide +kernel
theorem dX8_findFar_195 : decode cX8_findFar 195 = .ok (.iconst 4, 1) := by decide +kernel
theorem dX8_findFar_196 : decode cX8_findFar 196 = .ok (.irem, 1) := by decide +kernel
theorem dX8_findFar_197 : decode cX8_findFar 197 = .ok (.iload 6, 2) := by decide +kernel
theorem dX8_findFar_199 : decode cX8_findFar 199 = .ok (.iload 7, 2) := by decide +kernel
theorem dX8_findFar_201 : decode cX8_findFar 201 = .ok (.iload 8, 2) := by decide +kernel
theorem dX8_findFar_203 : decode cX8_findFar 203 = .ok (.invokevirtual 200, 3) := by decide +kernel
theorem dX8_findFar_206 : decode cX8_findFar 206 = .ok (.iinc 4 1, 3) := by decide +kernel
theorem dX8_findFar_209 : decode cX8_findFar 209 = .ok (.goto (-161), 3) := by decide +kernel
theorem dX8_findFar_212 : decode cX8_findFar 212 = .ok (.return_, 1) := by decide +kernel
theorem iw_X8_findFar_X8 : ∀ w ∈ u_ws RX8 TX8 18, w ∈ wsX8_findFar := by decide +kernel
theorem lk_X8_findFar_0 : Cond.fieldLink RX8 35 (TX8 11).1 (TX8 11).2.1 (TX8 11).2.2.1 ∈ wsX8_findFar := by decide +kernel
theorem lk_X8_findFar_1 : Cond.fieldLink RX8 197 (TX8 13).1 (TX8 13).2.1 (TX8 13).2.2.1 ∈ wsX8_findFar := by decide +kernel
theorem lk_X8_findFar_2 : Cond.fieldLink RX8 38 (TX8 12).1 (TX8 12).2.1 (TX8 12).2.2.1 ∈ wsX8_findFar := by decide +kernel
set_option maxRecDepth 100000 in
theorem r_X8_findFar_0 {X : Bn} (C : Cx X cX8_findFar 9 RX8 wsX8_findFar 4 93) (ad : Nat → Nat) (S : MS) (x1 : Int32) (x2 : Int32) (x3 : Int32) (h : At X 9 (mW X.E ad S) 3 [(0, .ref (ad 0)), (1, .int x1), (2, .int x2), (3, .int x3), (4, .int 0)] []) : At X 9 (mW X.E ad S) 0 [(0, .ref (ad 0)), (1, .int x1), (2, .int x2), (3, .int x3)] [] := by
  refine at_iconst C dX8_findFar_0 (v := 0) rfl ?_
  refine at_istore C dX8_findFar_1 (by decide) (lv' := [(4, .int 0), (0, .ref (ad 0)), (1, .int x1), (2, .int x2), (3, .int x3)]) rfl ?_
  refine at_lv [1, 2, 3, 4, 0] rfl ?_
  exact h
set_option maxRecDepth 100000 in
theorem r_X8_findFar_3 {X : Bn} (C : Cx X cX8_findFar 9 RX8 wsX8_findFar 4 93) (ad : Nat → Nat) (S : MS) (x1 : Int32) (x2 : Int32) (x3 : Int32) (x4 : Int32) (h : ((256 ≤ x4) → (∃ (S1 : MS), (Fn X.l X.D X.E X.a1 X.a2 yX8_comes wsX8_comes 3 67 [.ref (ad 0), .int x1, .int x2, .int (x3 / 8), .int (irm x3 8), .int 0] (mW X.E ad (pg S 13 0 0)) none (mW X.E ad S1)) ∧ (At X 9 (mW X.E ad S1) 48 [(0, .ref (ad 0)), (1, .int x1), (4, .int 0)] []))) ∧ (¬ 256 ≤ x4 → ((vp_in x4 256) ∧ (At X 9 (mW X.E ad (pg S 11 x4.toNatClampNeg (-1))) 3 [(0, .ref (ad 0)), (1, .int x1), (2, .int x2), (3, .int x3), (4, .int (x4 + 1))] [])))) : At X 9 (mW X.E ad S) 3 [(0, .ref (ad 0)), (1, .int x1), (2, .int x2), (3, .int x3), (4, .int x4)] [] := by
  refine at_iload C dX8_findFar_3 (j := 4) rfl ?_
  refine at_sipush C dX8_findFar_5 (v := 256) rfl ?_
  refine at_icmp_ge C dX8_findFar_8 (tgt := 25) (by decide) (fun hc0 => ?_) (fun hc0 => ?_)
  · replace h := h.1 hc0
    refine at_aload_n C dX8_findFar_25 rfl (j := 0) rfl ?_
    refine at_iconst C dX8_findFar_26 (v := 0) rfl ?_
    refine at_put C (K := RX8) (T := TX8) (N := 18) (ci := 7) (ty := .int) iw_X8_findFar_X8 tyX8 tyX8_ok nmX8 0 mW_c0 rfl 13 (by decide) lk_X8_findFar_1 rfl rfl rfl rfl (Nat.le_of_ble_eq_true rfl) mW_f0_13 dX8_findFar_27 ?_
    refine at_aload_n C dX8_findFar_30 rfl (j := 0) rfl ?_
    refine at_iload_n C dX8_findFar_31 rfl (j := 1) rfl ?_
    refine at_iload_n C dX8_findFar_32 rfl (j := 2) rfl ?_
    refine at_iload_n C dX8_findFar_33 rfl (j := 3) rfl ?_
    refine at_bipush C dX8_findFar_34 (v := 8) rfl ?_
    refine at_idiv C dX8_findFar_36 (by decide) ?_
    refine at_iload_n C dX8_findFar_37 rfl (j := 3) rfl ?_
    refine at_bipush C dX8_findFar_38 (v := 8) rfl ?_
    refine at_irem C dX8_findFar_40 (by decide) ?_
    refine at_iconst C dX8_findFar_41 (v := 0) rfl ?_
    obtain ⟨S1, hF1, h⟩ := h
    refine at_cV1v C 5 hF1 gX8_findFar_X8_comes rfl (by decide +kernel) ⟨rfl, rfl⟩ rfl rfl rfl 0 mW_c0 rfl dX8_findFar_42 ?_
    refine at_iconst C dX8_findFar_45 (v := 0) rfl ?_
    refine at_istore C dX8_findFar_46 (by decide) (lv' := [(4, .int 0), (0, .ref (ad 0)), (1, .int x1), (2, .int x2), (3, .int x3)]) rfl ?_
    refine at_lv [1, 2, 0] rfl ?_
    exact h
  · replace h := h.2 hc0
    refine at_aload_n C dX8_findFar_11 rfl (j := 0) rfl ?_
    refine at_get C (K := RX8) (T := TX8) (N := 18) (ci := 7) (v := .ref (ad 9)) iw_X8_findFar_X8 0 mW_c0 rfl 11 (by decide) lk_X8_findFar_0 rfl dX8_findFar_12 ?_
    refine at_iload C dX8_findFar_15 (j := 4) rfl ?_
    refine at_iconst C dX8_findFar_17 (v := (-1)) rfl ?_
    refine at_iast C 9 mW_c9 h.1 mW_s9 dX8_findFar_18 ?_
    replace h := h.2
    refine at_iinc C dX8_findFar_19 (j := 4) (v := x4 + 1) rfl rfl (by decide) (lv' := [(4, .int (x4 + 1)), (0, .ref (ad 0)), (1, .int x1), (2, .int x2), (3, .int x3)]) rfl ?_
    refine at_goto C dX8_findFar_22 (tgt := 3) (by decide) ?_
    refine at_lv [1, 2, 3, 4, 0] rfl ?_
    exact h
set_option maxRecDepth 100000 in
theorem r_X8_findFar_48 {X : Bn} (C : Cx X cX8_findFar 9 RX8 wsX8_findFar 4 93) (ad : Nat → Nat) (S : MS) (x1 : Int32) (x4 : Int32) (h : ((S.1 13 0 ≤ x4) → (Ends X (none) none (mW X.E ad S))) ∧ (¬ S.1 13 0 ≤ x4 → ((vp_in x4 256) ∧ ((vp_in x4 256) ∧ ((vp_in x4 256) ∧ ((vp_in x4 256) ∧ ((vp_in (S.1 12 x4.toNatClampNeg) 256) ∧ (∃ (S2 : MS), (Fn X.l X.D X.E X.a1 X.a2 yX8_comes wsX8_comes 3 67 [.ref (ad 0), .int x1, .int ((S.1 12 x4.toNatClampNeg) / 64), .int (((irm (S.1 12 x4.toNatClampNeg) 64) / 8) - 1), .int (irm (S.1 12 x4.toNatClampNeg) 8), .int ((S.1 11 ((S.1 12 x4.toNatClampNeg).toNatClampNeg)) + 1)] (mW X.E ad S) none (mW X.E ad S2)) ∧ (∃ (S3 : MS), (Fn X.l X.D X.E X.a1 X.a2 yX8_comes wsX8_comes 3 67 [.ref (ad 0), .int x1, .int ((S.1 12 x4.toNatClampNeg) / 64), .int ((irm (S.1 12 x4.toNatClampNeg) 64) / 8), .int ((irm (S.1 12 x4.toNatClampNeg) 8) + 1), .int ((S.1 11 ((S.1 12 x4.toNatClampNeg).toNatClampNeg)) + 1)] (mW X.E ad S2) none (mW X.E ad S3)) ∧ (∃ (S4 : MS), (Fn X.l X.D X.E X.a1 X.a2 yX8_comes wsX8_comes 3 67 [.ref (ad 0), .int x1, .int ((S.1 12 x4.toNatClampNeg) / 64), .int (((irm (S.1 12 x4.toNatClampNeg) 64) / 8) + 1), .int (irm (S.1 12 x4.toNatClampNeg) 8), .int ((S.1 11 ((S.1 12 x4.toNatClampNeg).toNatClampNeg)) + 1)] (mW X.E ad S3) none (mW X.E ad S4)) ∧ (∃ (S5 : MS), (Fn X.l X.D X.E X.a1 X.a2 yX8_comes wsX8_comes 3 67 [.ref (ad 0), .int x1, .int ((S.1 12 x4.toNatClampNeg) / 64), .int ((irm (S.1 12 x4.toNatClampNeg) 64) / 8), .int ((irm (S.1 12 x4.toNatClampNeg) 8) - 1), .int ((S.1 11 ((S.1 12 x4.toNatClampNeg).toNatClampNeg)) + 1)] (mW X.E ad S4) none (mW X.E ad S5)) ∧ (∃ (S6 : MS), (Fn X.l X.D X.E X.a1 X.a2 yX8_comes wsX8_comes 3 67 [.ref (ad 0), .int x1, .int (irm (((S.1 12 x4.toNatClampNeg) / 64) + 1) 4), .int ((irm (S.1 12 x4.toNatClampNeg) 64) / 8), .int (irm (S.1 12 x4.toNatClampNeg) 8), .int ((S.1 11 ((S.1 12 x4.toNatClampNeg).toNatClampNeg)) + 1)] (mW X.E ad S5) none (mW X.E ad S6)) ∧ (∃ (S7 : MS), (Fn X.l X.D X.E X.a1 X.a2 yX8_comes wsX8_comes 3 67 [.ref (ad 0), .int x1, .int (irm (((S.1 12 x4.toNatClampNeg) / 64) + 3) 4), .int ((irm (S.1 12 x4.toNatClampNeg) 64) / 8), .int (irm (S.1 12 x4.toNatClampNeg) 8), .int ((S.1 11 ((S.1 12 x4.toNatClampNeg).toNatClampNeg)) + 1)] (mW X.E ad S6) none (mW X.E ad S7)) ∧ (At X 9 (mW X.E ad S7) 48 [(0, .ref (ad 0)), (1, .int x1), (4, .int (x4 + 1))] [])))))))))))))) : At X 9 (mW X.E ad S) 48 [(0, .ref (ad 0)), (1, .int x1), (4, .int x4)] [] := by
  refine at_iload C dX8_findFar_48 (j := 2) rfl ?_
  refine at_aload_n C dX8_findFar_50 rfl (j := 0) rfl ?_
  refine at_get C (K := RX8) (T := TX8) (N := 18) (ci := 7) (v := .int (S.1 13 0)) iw_X8_findFar_X8 0 mW_c0 rfl 13 (by decide) lk_X8_findFar_1 rfl dX8_findFar_51 ?_
  refine at_icmp_ge C dX8_findFar_54 (tgt := 212) (by decide) (fun hc1 => ?_) (fun hc1 => ?_)
  · replace h := h.1 hc1
    exact at_vret C dX8_findFar_212 h
  · replace h := h.2 hc1
    refine at_aload_n C dX8_findFar_57 rfl (j := 0) rfl ?_
    refine at_get C (K := RX8) (T := TX8) (N := 18) (ci := 7) (v := .ref (ad 10)) iw_X8_findFar_X8 0 mW_c0 rfl 12 (by decide) lk_X8_findFar_2 rfl dX8_findFar_58 ?_
    refine at_iload C dX8_findFar_61 (j := 2) rfl ?_
    refine at_iald C 10 mW_c10 h.1 dX8_findFar_63 ?_
    replace h := h.2
    refine at_bipush C dX8_findFar_64 (v := 64) rfl ?_
    refine at_idiv C dX8_findFar_66 (by decide) ?_
    refine at_istore C dX8_findFar_67 (by decide) (lv' := [(5, .int ((S.1 12 x4.toNatClampNeg) / 64)), (0, .ref (ad 0)), (1, .int x1), (4, .int x4)]) rfl ?_
    refine at_aload_n C dX8_findFar_69 rfl (j := 1) rfl ?_
    refine at_get C (K := RX8) (T := TX8) (N := 18) (ci := 7) (v := .ref (ad 10)) iw_X8_findFar_X8 0 mW_c0 rfl 12 (by decide) lk_X8_findFar_2 rfl dX8_findFar_70 ?_
    refine at_iload C dX8_findFar_73 (j := 3) rfl ?_
    refine at_iald C 10 mW_c10 h.1 dX8_findFar_75 ?_
    replace h := h.2
    refine at_bipush C dX8_findFar_76 (v := 64) rfl ?_
    refine at_irem C dX8_findFar_78 (by decide) ?_
    refine at_bipush C dX8_findFar_79 (v := 8) rfl ?_
    refine at_idiv C dX8_findFar_81 (by decide) ?_
    refine at_istore C dX8_findFar_82 (by decide) (lv' := [(6, .int ((irm (S.1 12 x4.toNatClampNeg) 64) / 8)), (5, .int ((S.1 12 x4.toNatClampNeg) / 64)), (0, .ref (ad 0)), (1, .int x1), (4, .int x4)]) rfl ?_
    refine at_aload_n C dX8_findFar_84 rfl (j := 2) rfl ?_
    refine at_get C (K := RX8) (T := TX8) (N := 18) (ci := 7) (v := .ref (ad 10)) iw_X8_findFar_X8 0 mW_c0 rfl 12 (by decide) lk_X8_findFar_2 rfl dX8_findFar_85 ?_
    refine at_iload C dX8_findFar_88 (j := 4) rfl ?_
    refine at_iald C 10 mW_c10 h.1 dX8_findFar_90 ?_
    replace h := h.2
    refine at_bipush C dX8_findFar_91 (v := 8) rfl ?_
    refine at_irem C dX8_findFar_93 (by decide) ?_
    refine at_istore C dX8_findFar_94 (by decide) (lv' := [(7, .int (irm (S.1 12 x4.toNatClampNeg) 8)), (6, .int ((irm (S.1 12 x4.toNatClampNeg) 64) / 8)), (5, .int ((S.1 12 x4.toNatClampNeg) / 64)), (0, .ref (ad 0)), (1, .int x1), (4, .int x4)]) rfl ?_
    refine at_aload_n C dX8_findFar_96 rfl (j := 3) rfl ?_
    refine at_get C (K := RX8) (T := TX8) (N := 18) (ci := 7) (v := .ref (ad 9)) iw_X8_findFar_X8 0 mW_c0 rfl 11 (by decide) lk_X8_findFar_0 rfl dX8_findFar_97 ?_
    refine at_aload_n C dX8_findFar_100 rfl (j := 3) rfl ?_
    refine at_get C (K := RX8) (T := TX8) (N := 18) (ci := 7) (v := .ref (ad 10)) iw_X8_findFar_X8 0 mW_c0 rfl 12 (by decide) lk_X8_findFar_2 rfl dX8_findFar_101 ?_
    refine at_iload C dX8_findFar_104 (j := 5) rfl ?_
    refine at_iald C 10 mW_c10 h.1 dX8_findFar_106 ?_
    replace h := h.2
    refine at_iald C 9 mW_c9 h.1 dX8_findFar_107 ?_
    replace h := h.2
    refine at_iconst C dX8_findFar_108 (v := 1) rfl ?_
    refine at_iadd C dX8_findFar_109 ?_
    refine at_istore C dX8_findFar_110 (by decide) (lv' := [(8, .int ((S.1 11 ((S.1 12 x4.toNatClampNeg).toNatClampNeg)) + 1)), (7, .int (irm (S.1 12 x4.toNatClampNeg) 8)), (6, .int ((irm (S.1 12 x4.toNatClampNeg) 64) / 8)), (5, .int ((S.1 12 x4.toNatClampNeg) / 64)), (0, .ref (ad 0)), (1, .int x1), (4, .int x4)]) rfl ?_
    refine at_aload_n C dX8_findFar_112 rfl (j := 4) rfl ?_
    refine at_iload_n C dX8_findFar_113 rfl (j := 5) rfl ?_
    refine at_iload C dX8_findFar_114 (j := 3) rfl ?_
    refine at_iload C dX8_findFar_116 (j := 2) rfl ?_
    refine at_iconst C dX8_findFar_118 (v := 1) rfl ?_
    refine at_isub C dX8_findFar_119 ?_
    refine at_iload C dX8_findFar_120 (j := 1) rfl ?_
    refine at_iload C dX8_findFar_122 (j := 0) rfl ?_
    obtain ⟨S2, hF2, h⟩ := h
    refine at_cV1v C 5 hF2 gX8_findFar_X8_comes rfl (by decide +kernel) ⟨rfl, rfl⟩ rfl rfl rfl 0 mW_c0 rfl dX8_findFar_124 ?_
    refine at_aload_n C dX8_findFar_127 rfl (j := 4) rfl ?_
    refine at_iload_n C dX8_findFar_128 rfl (j := 5) rfl ?_
    refine at_iload C dX8_findFar_129 (j := 3) rfl ?_
    refine at_iload C dX8_findFar_131 (j := 2) rfl ?_
    refine at_iload C dX8_findFar_133 (j := 1) rfl ?_
    refine at_iconst C dX8_findFar_135 (v := 1) rfl ?_
    refine at_iadd C dX8_findFar_136 ?_
    refine at_iload C dX8_findFar_137 (j := 0) rfl ?_
    obtain ⟨S3, hF3, h⟩ := h
    refine at_cV1v C 5 hF3 gX8_findFar_X8_comes rfl (by decide +kernel) ⟨rfl, rfl⟩ rfl rfl rfl 0 mW_c0 rfl dX8_findFar_139 ?_
    refine at_aload_n C dX8_findFar_142 rfl (j := 4) rfl ?_
    refine at_iload_n C dX8_findFar_143 rfl (j := 5) rfl ?_
    refine at_iload C dX8_findFar_144 (j := 3) rfl ?_
    refine at_iload C dX8_findFar_146 (j := 2) rfl ?_
    refine at_iconst C dX8_findFar_148 (v := 1) rfl ?_
    refine at_iadd C dX8_findFar_149 ?_
    refine at_iload C dX8_findFar_150 (j := 1) rfl ?_
    refine at_iload C dX8_findFar_152 (j := 0) rfl ?_
    obtain ⟨S4, hF4, h⟩ := h
    refine at_cV1v C 5 hF4 gX8_findFar_X8_comes rfl (by decide +kernel) ⟨rfl, rfl⟩ rfl rfl rfl 0 mW_c0 rfl dX8_findFar_154 ?_
    refine at_aload_n C dX8_findFar_157 rfl (j := 4) rfl ?_
    refine at_iload_n C dX8_findFar_158 rfl (j := 5) rfl ?_
    refine at_iload C dX8_findFar_159 (j := 3) rfl ?_
    refine at_iload C dX8_findFar_161 (j := 2) rfl ?_
    refine at_iload C dX8_findFar_163 (j := 1) rfl ?_
    refine at_iconst C dX8_findFar_165 (v := 1) rfl ?_
    refine at_isub C dX8_findFar_166 ?_
    refine at_iload C dX8_findFar_167 (j := 0) rfl ?_
    obtain ⟨S5, hF5, h⟩ := h
    refine at_cV1v C 5 hF5 gX8_findFar_X8_comes rfl (by decide +kernel) ⟨rfl, rfl⟩ rfl rfl rfl 0 mW_c0 rfl dX8_findFar_169 ?_
    refine at_aload_n C dX8_findFar_172 rfl (j := 4) rfl ?_
    refine at_iload_n C dX8_findFar_173 rfl (j := 5) rfl ?_
    refine at_iload C dX8_findFar_174 (j := 3) rfl ?_
    refine at_iconst C dX8_findFar_176 (v := 1) rfl ?_
    refine at_iadd C dX8_findFar_177 ?_
    refine at_iconst C dX8_findFar_178 (v := 4) rfl ?_
    refine at_irem C dX8_findFar_179 (by decide) ?_
    refine at_iload C dX8_findFar_180 (j := 2) rfl ?_
    refine at_iload C dX8_findFar_182 (j := 1) rfl ?_
    refine at_iload C dX8_findFar_184 (j := 0) rfl ?_
    obtain ⟨S6, hF6, h⟩ := h
    refine at_cV1v C 5 hF6 gX8_findFar_X8_comes rfl (by decide +kernel) ⟨rfl, rfl⟩ rfl rfl rfl 0 mW_c0 rfl dX8_findFar_186 ?_
    refine at_aload_n C dX8_findFar_189 rfl (j := 4) rfl ?_
    refine at_iload_n C dX8_findFar_190 rfl (j := 5) rfl ?_
    refine at_iload C dX8_findFar_191 (j := 3) rfl ?_
    refine at_iconst C dX8_findFar_193 (v := 3) rfl ?_
    refine at_iadd C dX8_findFar_194 ?_
    refine at_iconst C dX8_findFar_195 (v := 4) rfl ?_
    refine at_irem C dX8_findFar_196 (by decide) ?_
    refine at_iload C dX8_findFar_197 (j := 2) rfl ?_
    refine at_iload C dX8_findFar_199 (j := 1) rfl ?_
    refine at_iload C dX8_findFar_201 (j := 0) rfl ?_
    obtain ⟨S7, hF7, h⟩ := h
    refine at_cV1v C 5 hF7 gX8_findFar_X8_comes rfl (by decide +kernel) ⟨rfl, rfl⟩ rfl rfl rfl 0 mW_c0 rfl dX8_findFar_203 ?_
    refine at_iinc C dX8_findFar_206 (j := 6) (v := x4 + 1) rfl rfl (by decide) (lv' := [(4, .int (x4 + 1)), (8, .int ((S.1 11 ((S.1 12 x4.toNatClampNeg).toNatClampNeg)) + 1)), (7, .int (irm (S.1 12 x4.toNatClampNeg) 8)), (6, .int ((irm (S.1 12 x4.toNatClampNeg) 64) / 8)), (5, .int ((S.1 12 x4.toNatClampNeg) / 64)), (0, .ref (ad 0)), (1, .int x1)]) rfl ?_
    refine at_goto C dX8_findFar_209 (tgt := 48) (by decide) ?_
    refine at_lv [5, 6, 0] rfl ?_
    exact h
/-! from kit/laws/COUNTS.to-paste -/
theorem fb_holes : ∀ (m n : Nat) (f : Nat → Nat), (∀ i, i < n → f i < m) → (∀ i j, i < j → j < n → f i ≠ f j) → n ≤ m := by
  intro m
  induction m with
  | zero =>
    intro n f h1 _
    rcases Nat.eq_zero_or_pos n with h | h
    · omega
    · exact absurd (h1 0 h) (Nat.not_lt_zero _)
  | succ m ih =>
    intro n f h1 h2
    by_cases hx : ∃ i, i < n ∧ f i = m
    · obtain ⟨a, ha, hfa⟩ := hx
      have hg := ih (n - 1) (fun i => if i < a then f i else f (i + 1)) (by
        intro i hi
        by_cases q : i < a
        · simp only [if_pos q]
          have b1 := h1 i (by omega)
          have b2 := h2 i a q ha
          omega
        · simp only [if_neg q]
          have b1 := h1 (i + 1) (by omega)
          have b2 := h2 a (i + 1) (by omega) (by omega)
          omega) (by
        intro i j hij hj
        by_cases q : i < a
        · by_cases r : j < a
          · simp only [if_pos q, if_pos r]
            exact h2 i j hij (by omega)
          · simp only [if_pos q, if_neg r]
            exact h2 i (j + 1) (by omega) (by omega)
        · have r : ¬ j < a := by omega
          simp only [if_neg q, if_neg r]
          exact h2 (i + 1) (j + 1) (by omega) (by omega))
      omega
    · have hg := ih n f (fun i hi => by
        have b1 := h1 i hi
        have b2 : f i ≠ m := fun e => hx ⟨i, hi, e⟩
        omega) h2
      omega
/-- a stand is 64 times the turn and the cell; its six moves: up, right, down, left, a turn right, a turn left -/
def mv6 (σ : Nat) : Nat → Option Nat
  | 0 => if 8 ≤ σ % 64 then some (σ - 8) else none
  | 1 => if σ % 8 < 7 then some (σ + 1) else none
  | 2 => if σ % 64 < 56 then some (σ + 8) else none
  | 3 => if 0 < σ % 8 then some (σ - 1) else none
  | 4 => some (64 * ((σ / 64 + 1) % 4) + σ % 64)
  | _ + 5 => some (64 * ((σ / 64 + 3) % 4) + σ % 64)
theorem mv6_lt {σ τ : Nat} (h : σ < 256) : ∀ (j : Nat), mv6 σ j = some τ → τ < 256
  | 0, e => by
    have e : (if 8 ≤ σ % 64 then some (σ - 8) else none) = some τ := e
    split at e <;> cases e; omega
  | 1, e => by
    have e : (if σ % 8 < 7 then some (σ + 1) else none) = some τ := e
    split at e <;> cases e; omega
  | 2, e => by
    have e : (if σ % 64 < 56 then some (σ + 8) else none) = some τ := e
    split at e <;> cases e; omega
  | 3, e => by
    have e : (if 0 < σ % 8 then some (σ - 1) else none) = some τ := e
    split at e <;> cases e; omega
  | 4, e => by
    have e : some (64 * ((σ / 64 + 1) % 4) + σ % 64) = some τ := e
    cases e; omega
  | _ + 5, e => by
    have e : some (64 * ((σ / 64 + 3) % 4) + σ % 64) = some τ := e
    cases e; omega
/-- reached within so many steps -/
def rch (ok : Nat → Bool) (st : Nat) : Nat → Nat → Prop
  | 0, σ => σ = st
  | n + 1, σ => rch ok st n σ ∨ (ok σ = true ∧ ∃ τ j, j < 6 ∧ rch ok st n τ ∧ mv6 τ j = some σ)
/-- each stand holds its fewest steps, -1 if it is never reached -/
def farOK (ok : Nat → Bool) (st : Nat) (F : Nat → Int32) : Prop := ∀ σ, σ < 256 → (F σ = -1 ∧ ∀ n, ¬ rch ok st n σ) ∨ ∃ m, m ≤ 256 ∧ F σ = nI m ∧ rch ok st m σ ∧ ∀ n, rch ok st n σ → m ≤ n
def okS (g : Nat → Int32) (x : Int32) (σ : Nat) : Bool := itF (fun r a => itF (fun c a => csStep g (f_X8_turned x (nI (σ / 64))) (σ % 64) r c a) 0 4 a) 0 4 true
theorem okS_eq (T : MS) (x : Int32) (σ : Nat) : f_X8_canStand T (f_X8_turned x (nI (σ / 64))) (nI (σ % 64)) = okS (T.1 10) x σ := by
  rw [f_X8_canStand, nI_clamp (by omega)]; rfl
/-- one stand comes, if it is there, new and possible -/
def comeT (ok : Nat → Bool) (T : MS) (w m : Nat) : Option Nat → MS
  | none => T
  | some σ => if T.1 11 σ = -1 ∧ ok σ = true then pg (pg (pg T 11 σ (nI m)) 12 w (nI σ)) 13 0 (nI (w + 1)) else T
theorem comes_some {T : MS} {s t r c w m : Nat} (hs : s < 8) (ht : t < 4) (hr : r < 8) (hc : c < 8) (hw : w < 2 ^ 30) (e13 : T.1 13 0 = nI w) (hroom : T.1 11 (64 * t + 8 * r + c) = -1 → w < 256) :
    s_X8_comes T (nI s) (nI t) (nI r) (nI c) (nI m) = comeT (okS (T.1 10) (T.1 9 s)) T w m (some (64 * t + 8 * r + c)) ∧ p_X8_comes T (nI s) (nI t) (nI r) (nI c) (nI m) := by
  have e1 : 64 * nI t + 8 * nI r + nI c = nI (64 * t + 8 * r + c) := by rw [show (64 : Int32) = nI 64 from rfl, show (8 : Int32) = nI 8 from rfl, pk_mul, pk_mul, nI_add, nI_add]
  have e2 : 8 * nI r + nI c = nI (8 * r + c) := by rw [show (8 : Int32) = nI 8 from rfl, pk_mul, nI_add]
  have e3 : f_X8_canStand T (f_X8_turned (T.1 9 s) (nI t)) (nI (8 * r + c)) = okS (T.1 10) (T.1 9 s) (64 * t + 8 * r + c) := by
    rw [← okS_eq, show (64 * t + 8 * r + c) / 64 = t by omega, show (64 * t + 8 * r + c) % 64 = 8 * r + c by omega]
  unfold s_X8_comes p_X8_comes
  rw [in7_y r hr, in7_y c hc, e1, e2, nI_clamp (show 64 * t + 8 * r + c < 2 ^ 31 by omega), nI_clamp (show s < 2 ^ 31 by omega), e3, e13, nI_clamp (show w < 2 ^ 31 by omega), nI_1]
  refine ⟨?_, fun _ _ => ⟨vp_in_nI (by omega) (by decide), fun q => ⟨vp_in_nI hs (by decide), ⟨8 * r + c, by omega, rfl⟩, fun _ => ⟨vp_in_nI (by omega) (by decide), vp_in_nI (hroom q) (by decide)⟩⟩⟩⟩
  rw [if_pos rfl, if_pos rfl]
  show _ = (if T.1 11 (64 * t + 8 * r + c) = -1 ∧ okS (T.1 10) (T.1 9 s) (64 * t + 8 * r + c) = true then pg (pg (pg T 11 (64 * t + 8 * r + c) (nI m)) 12 w (nI (64 * t + 8 * r + c))) 13 0 (nI (w + 1)) else T)
  by_cases q : T.1 11 (64 * t + 8 * r + c) = -1
  · rw [if_pos q]
    by_cases z : okS (T.1 10) (T.1 9 s) (64 * t + 8 * r + c) = true
    · rw [if_pos z, if_pos ⟨q, z⟩]
    · rw [if_neg z, if_neg (fun y => z y.2)]
  · rw [if_neg q, if_neg (fun y => q y.1)]
theorem comes_none {T : MS} {x1 x2 x3 x4 x5 : Int32} (h : f_X8_in x3.toInt64 0 7 = false ∨ f_X8_in x4.toInt64 0 7 = false) : s_X8_comes T x1 x2 x3 x4 x5 = T ∧ p_X8_comes T x1 x2 x3 x4 x5 := by
  unfold s_X8_comes p_X8_comes
  rcases h with h | h
  · rw [h]; exact ⟨rfl, fun q => by cases q⟩
  · rw [h]
    refine ⟨?_, fun _ q => by cases q⟩
    rw [if_neg (show ¬ false = true by decide)]
    exact ite_self T
/-- the search between two stands of the queue (j of the six moves of the k-th are done) -/
def bfI (S : MS) (ok : Nat → Bool) (st : Nat) (T : MS) (w k j : Nat) (q d : Nat → Nat) : Prop :=
  ((∀ a, a ≠ 11 → a ≠ 12 → a ≠ 13 → T.1 a = S.1 a) ∧ T.2 = S.2 ∧ T.1 13 0 = nI w ∧ k ≤ w) ∧
  (∀ i, i < w → q i < 256 ∧ T.1 12 i = nI (q i) ∧ T.1 11 (q i) = nI (d i) ∧ d i ≤ i ∧ rch ok st (d i) (q i)) ∧
  (∀ a b, a < b → b < w → q a ≠ q b ∧ d a ≤ d b) ∧
  (∀ σ, σ < 256 → ¬ T.1 11 σ = -1 → ∃ i, i < w ∧ q i = σ) ∧
  (∀ i a, i < w → (i < k ∨ (i = k ∧ a < j)) → a < 6 → ∀ σ, mv6 (q i) a = some σ → ok σ = true → ∃ b, b < w ∧ q b = σ ∧ d b ≤ d i + 1) ∧
  (k < w → ∀ i, i < w → d i ≤ d k + 1)
theorem bf_room {S : MS} {ok : Nat → Bool} {st : Nat} {T : MS} {w k j : Nat} {q d : Nat → Nat} (h : bfI S ok st T w k j q d) : w ≤ 256 := fb_holes 256 w q (fun i hi => (h.2.1 i hi).1) (fun a b hab hb => (h.2.2.1 a b hab hb).1)
theorem bf_new {S : MS} {ok : Nat → Bool} {st : Nat} {T : MS} {w k j σ : Nat} {q d : Nat → Nat} (h : bfI S ok st T w k j q d) (hσ : σ < 256) (hn : T.1 11 σ = -1) : (∀ i, i < w → q i ≠ σ) ∧ w < 256 := by
  have h1 : ∀ i, i < w → q i ≠ σ := fun i hi e => by
    have := (h.2.1 i hi)
    have hw := bf_room h
    rw [e, hn] at this
    exact nm1 (by omega) this.2.2.1.symm
  refine ⟨h1, ?_⟩
  have := fb_holes 256 (w + 1) (fun i => if i < w then q i else σ) (fun i hi => by
    by_cases z : i < w
    · simp only [if_pos z]; exact (h.2.1 i z).1
    · simp only [if_neg z]; exact hσ) (fun a b hab hb => by
    have ha : a < w := by omega
    simp only [if_pos ha]
    by_cases z : b < w
    · simp only [if_pos z]; exact (h.2.2.1 a b hab z).1
    · simp only [if_neg z]; exact h1 a ha)
  omega
theorem bf_step {S : MS} {ok : Nat → Bool} {st : Nat} {T : MS} {w k j : Nat} {q d : Nat → Nat} (h : bfI S ok st T w k j q d) (hk : k < w) (hj : j < 6) :
    ∃ w' q' d', bfI S ok st (comeT ok T w (d k + 1) (mv6 (q k) j)) w' k (j + 1) q' d' ∧ w ≤ w' ∧ ∀ i, i < w → q' i = q i ∧ d' i = d i := by
  obtain ⟨⟨h1, h2, h3, h4⟩, h5, h6, h7, h8, h9⟩ := id h
  -- nothing new: the move is no stand, or it was met before, or it is not possible
  have same : (∀ σ, mv6 (q k) j = some σ → ok σ = true → ∃ b, b < w ∧ q b = σ ∧ d b ≤ d k + 1) → bfI S ok st T w k (j + 1) q d := by
    intro hs
    refine ⟨⟨h1, h2, h3, h4⟩, h5, h6, h7, fun i a hi hia ha σ e o => ?_, h9⟩
    rcases hia with z | ⟨z1, z2⟩
    · exact h8 i a hi (Or.inl z) ha σ e o
    · by_cases y : a < j
      · exact h8 i a hi (Or.inr ⟨z1, y⟩) ha σ e o
      · have : a = j := by omega
        subst this
        subst z1
        exact hs σ e o
  cases hm : mv6 (q k) j with
  | none => exact ⟨w, q, d, same (fun σ e => by rw [hm] at e; cases e), Nat.le_refl w, fun _ _ => ⟨rfl, rfl⟩⟩
  | some σ =>
    have hσ : σ < 256 := mv6_lt (h5 k hk).1 j hm
    by_cases hc : T.1 11 σ = -1 ∧ ok σ = true
    · obtain ⟨n1, n2⟩ := bf_new h hσ hc.1
      have hT : comeT ok T w (d k + 1) (some σ) = pg (pg (pg T 11 σ (nI (d k + 1))) 12 w (nI σ)) 13 0 (nI (w + 1)) := if_pos hc
      rw [hT]
      obtain ⟨q', hq'⟩ : ∃ q' : Nat → Nat, q' = fun i => if i < w then q i else σ := ⟨_, rfl⟩
      obtain ⟨d', hd'⟩ : ∃ d' : Nat → Nat, d' = fun i => if i < w then d i else d k + 1 := ⟨_, rfl⟩
      have qo : ∀ i, i < w → q' i = q i := fun i hi => by rw [hq']; exact if_pos hi
      have qn : q' w = σ := by rw [hq']; exact if_neg (Nat.lt_irrefl w)
      have do_ : ∀ i, i < w → d' i = d i := fun i hi => by rw [hd']; exact if_pos hi
      have dn_ : d' w = d k + 1 := by rw [hd']; exact if_neg (Nat.lt_irrefl w)
      have dk : d k ≤ k := (h5 k hk).2.2.2.1
      refine ⟨w + 1, q', d', ⟨⟨fun a a1 a2 a3 => by rw [pg_r a3, pg_r a2, pg_r a1]; exact h1 a a1 a2 a3, h2, pg_s, by omega⟩, fun i hi => ?_, fun a b hab hb => ?_, fun τ hτ hn => ?_, fun i a hi hia ha τ e o => ?_, fun _ i hi => ?_⟩, by omega, fun i hi => ⟨qo i hi, do_ i hi⟩⟩
      · by_cases z : i < w
        · rw [qo i z, do_ i z, pg_o (by decide), pg_n (by omega), pg_o (by decide), pg_o (by decide), pg_o (by decide), pg_n (n1 i z)]
          exact h5 i z
        · have : i = w := by omega
          subst this
          rw [qn, dn_, pg_o (by decide), pg_s, pg_o (by decide), pg_o (by decide), pg_s]
          refine ⟨hσ, rfl, rfl, by omega, Or.inr ⟨hc.2, q k, j, hj, (h5 k hk).2.2.2.2, hm⟩⟩
      · by_cases z : b < w
        · rw [qo a (by omega), qo b z, do_ a (by omega), do_ b z]; exact h6 a b hab z
        · have : b = w := by omega
          subst this
          rw [qo a hab, qn, do_ a hab, dn_]
          exact ⟨n1 a hab, h9 hk a hab⟩
      · by_cases z : τ = σ
        · exact ⟨w, by omega, by rw [qn, z]⟩
        · rw [pg_o (by decide), pg_o (by decide), pg_n z] at hn
          obtain ⟨i, hi, e⟩ := h7 τ hτ hn
          exact ⟨i, by omega, by rw [qo i hi]; exact e⟩
      · have hiw : i < w := by omega
        rw [qo i hiw] at e
        rw [do_ i hiw]
        by_cases y : i < k ∨ (i = k ∧ a < j)
        · obtain ⟨b, hb, e1, e2⟩ := h8 i a hiw y ha τ e o
          exact ⟨b, by omega, by rw [qo b hb]; exact e1, by rw [do_ b hb]; exact e2⟩
        · have ei : i = k := by omega
          have ea : a = j := by omega
          subst ei; subst ea
          rw [hm] at e
          cases e
          exact ⟨w, by omega, qn, by rw [dn_]; omega⟩
      · rw [do_ k hk]
        by_cases z : i < w
        · rw [do_ i z]; exact h9 hk i z
        · have : i = w := by omega
          subst this
          rw [dn_]; omega
    · have hT : comeT ok T w (d k + 1) (some σ) = T := if_neg hc
      rw [hT]
      refine ⟨w, q, d, same (fun τ e o => ?_), Nat.le_refl w, fun _ _ => ⟨rfl, rfl⟩⟩
      rw [hm] at e
      cases e
      have hn : ¬ T.1 11 σ = -1 := fun z => hc ⟨z, o⟩
      obtain ⟨i, hi, e⟩ := h7 σ hσ hn
      exact ⟨i, hi, e, h9 hk i hi⟩
theorem bf_next {S : MS} {ok : Nat → Bool} {st : Nat} {T : MS} {w k : Nat} {q d : Nat → Nat} (h : bfI S ok st T w k 6 q d) (hk : k < w) : bfI S ok st T w (k + 1) 0 q d := by
  obtain ⟨⟨h1, h2, h3, h4⟩, h5, h6, h7, h8, h9⟩ := h
  refine ⟨⟨h1, h2, h3, hk⟩, h5, h6, h7, fun i a hi hia ha σ e o => h8 i a hi (by omega) ha σ e o, fun z i hi => ?_⟩
  have := (h6 k (k + 1) (by omega) z).2
  have := h9 hk i hi
  omega
theorem bf_end {S : MS} {ok : Nat → Bool} {st : Nat} {T : MS} {w : Nat} {q d : Nat → Nat} (h : bfI S ok st T w w 0 q d) (h0 : 0 < w) (hq : q 0 = st) (hd : d 0 = 0) : farOK ok st (T.1 11) := by
  obtain ⟨⟨h1, h2, h3, h4⟩, h5, h6, h7, h8, h9⟩ := id h
  have hw := bf_room h
  have comp : ∀ n σ, rch ok st n σ → ∃ i, i < w ∧ q i = σ ∧ d i ≤ n := by
    intro n
    induction n with
    | zero => intro σ e; exact ⟨0, h0, hq.trans (Eq.symm e), by omega⟩
    | succ n ih =>
      intro σ hr
      rcases hr with hr | ⟨o, τ, j, hj, hr, e⟩
      · obtain ⟨i, hi, e1, e2⟩ := ih σ hr
        exact ⟨i, hi, e1, by omega⟩
      · obtain ⟨i, hi, e1, e2⟩ := ih τ hr
        rw [← e1] at e
        obtain ⟨b, hb, e3, e4⟩ := h8 i j hi (Or.inl hi) hj σ e o
        exact ⟨b, hb, e3, by omega⟩
  intro σ hσ
  by_cases z : T.1 11 σ = -1
  · refine Or.inl ⟨z, fun n hr => ?_⟩
    obtain ⟨i, hi, e, _⟩ := comp n σ hr
    have := (h5 i hi)
    rw [e, z] at this
    exact nm1 (by omega) this.2.2.1.symm
  · obtain ⟨i, hi, e⟩ := h7 σ hσ z
    obtain ⟨g1, g2, g3, g4, g5⟩ := h5 i hi
    rw [e] at g3 g5
    refine Or.inr ⟨d i, by omega, g3, g5, fun n hr => ?_⟩
    obtain ⟨b, hb, e1, e2⟩ := comp n σ hr
    have : b = i := by
      rcases Nat.lt_trichotomy b i with y | y | y
      · exact absurd (e1.trans e.symm) (h6 b i y hi).1
      · exact y
      · exact absurd (e.trans e1.symm) (h6 i b y hb).1
    subst this
    exact e2
/-- the six calls are the six moves -/
theorem comes_mv {T : MS} {s σ w m : Nat} {ok : Nat → Bool} (hs : s < 8) (hσ : σ < 256) (hw : w < 2 ^ 30) (hok : okS (T.1 10) (T.1 9 s) = ok) (e13 : T.1 13 0 = nI w) (hroom : ∀ τ, τ < 256 → T.1 11 τ = -1 → w < 256) :
    (s_X8_comes T (nI s) (nI (σ / 64)) (nI (σ % 64 / 8) - 1) (nI (σ % 8)) (nI m) = comeT ok T w m (mv6 σ 0) ∧ p_X8_comes T (nI s) (nI (σ / 64)) (nI (σ % 64 / 8) - 1) (nI (σ % 8)) (nI m)) ∧
    (s_X8_comes T (nI s) (nI (σ / 64)) (nI (σ % 64 / 8)) (nI (σ % 8) + 1) (nI m) = comeT ok T w m (mv6 σ 1) ∧ p_X8_comes T (nI s) (nI (σ / 64)) (nI (σ % 64 / 8)) (nI (σ % 8) + 1) (nI m)) ∧
    (s_X8_comes T (nI s) (nI (σ / 64)) (nI (σ % 64 / 8) + 1) (nI (σ % 8)) (nI m) = comeT ok T w m (mv6 σ 2) ∧ p_X8_comes T (nI s) (nI (σ / 64)) (nI (σ % 64 / 8) + 1) (nI (σ % 8)) (nI m)) ∧
    (s_X8_comes T (nI s) (nI (σ / 64)) (nI (σ % 64 / 8)) (nI (σ % 8) - 1) (nI m) = comeT ok T w m (mv6 σ 3) ∧ p_X8_comes T (nI s) (nI (σ / 64)) (nI (σ % 64 / 8)) (nI (σ % 8) - 1) (nI m)) ∧
    (s_X8_comes T (nI s) (irm (nI (σ / 64) + 1) 4) (nI (σ % 64 / 8)) (nI (σ % 8)) (nI m) = comeT ok T w m (mv6 σ 4) ∧ p_X8_comes T (nI s) (irm (nI (σ / 64) + 1) 4) (nI (σ % 64 / 8)) (nI (σ % 8)) (nI m)) ∧
    (s_X8_comes T (nI s) (irm (nI (σ / 64) + 3) 4) (nI (σ % 64 / 8)) (nI (σ % 8)) (nI m) = comeT ok T w m (mv6 σ 5) ∧ p_X8_comes T (nI s) (irm (nI (σ / 64) + 3) 4) (nI (σ % 64 / 8)) (nI (σ % 8)) (nI m)) := by
  subst hok
  have go : ∀ (t r c τ : Nat), t < 4 → r < 8 → c < 8 → 64 * t + 8 * r + c = τ → s_X8_comes T (nI s) (nI t) (nI r) (nI c) (nI m) = comeT (okS (T.1 10) (T.1 9 s)) T w m (some τ) ∧ p_X8_comes T (nI s) (nI t) (nI r) (nI c) (nI m) := by
    intro t r c τ ht hr hc e
    subst e
    exact comes_some hs ht hr hc hw e13 (hroom _ (by omega))
  refine ⟨?_, ?_, ?_, ?_, ?_, ?_⟩
  · by_cases h : 8 ≤ σ % 64
    · have e : mv6 σ 0 = some (σ - 8) := if_pos h
      rw [e, show σ % 64 / 8 = (σ % 64 / 8 - 1) + 1 by omega, nI_pred]
      exact go _ _ _ _ (by omega) (by omega) (by omega) (by omega)
    · have e : mv6 σ 0 = none := if_neg h
      rw [e, show σ % 64 / 8 = 0 by omega]
      exact comes_none (Or.inl in7_m)
  · by_cases h : σ % 8 < 7
    · have e : mv6 σ 1 = some (σ + 1) := if_pos h
      rw [e, nI_1]
      exact go _ _ _ _ (by omega) (by omega) (by omega) (by omega)
    · have e : mv6 σ 1 = none := if_neg h
      rw [e, nI_1, show σ % 8 + 1 = 8 by omega]
      exact comes_none (Or.inr in7_8)
  · by_cases h : σ % 64 < 56
    · have e : mv6 σ 2 = some (σ + 8) := if_pos h
      rw [e, nI_1]
      exact go _ _ _ _ (by omega) (by omega) (by omega) (by omega)
    · have e : mv6 σ 2 = none := if_neg h
      rw [e, nI_1, show σ % 64 / 8 + 1 = 8 by omega]
      exact comes_none (Or.inl in7_8)
  · by_cases h : 0 < σ % 8
    · have e : mv6 σ 3 = some (σ - 1) := if_pos h
      rw [e, show σ % 8 = (σ % 8 - 1) + 1 by omega, nI_pred]
      exact go _ _ _ _ (by omega) (by omega) (by omega) (by omega)
    · have e : mv6 σ 3 = none := if_neg h
      rw [e, show σ % 8 = 0 by omega]
      exact comes_none (Or.inr in7_m)
  · rw [nI_1, show (4 : Int32) = nI 4 from rfl, irm_nI (by omega) (by decide) (by decide)]
    exact go _ _ _ _ (by omega) (by omega) (by omega) (by omega)
  · rw [show (3 : Int32) = nI 3 from rfl, nI_add, show (4 : Int32) = nI 4 from rfl, irm_nI (by omega) (by decide) (by decide)]
    exact go _ _ _ _ (by omega) (by omega) (by omega) (by omega)
def rdFar (g : Nat → Int32) (x : Int32) (st : Nat) (S S' : MS) : Prop := farOK (okS g x) st (S'.1 11) ∧ (∀ a, a ≠ 11 → a ≠ 12 → a ≠ 13 → S'.1 a = S.1 a) ∧ S'.2 = S.2
theorem c_X8_findFar (ad : Nat → Nat) (S : MS) {s t cell : Nat} (hs : s < 8) (ht : t < 4) (hc : cell < 64) (hok : okS (S.1 10) (S.1 9 s) (64 * t + cell) = true) :
    ∃ S', rdFar (S.1 10) (S.1 9 s) (64 * t + cell) S S' ∧ ∀ (l : Launch) (D : va_G) (E : Nat → ClassId) (a1 a2 : Nat), Fn l D E a1 a2 yX8_findFar wsX8_findFar 4 93 [.ref (ad 0), .int (nI s), .int (nI t), .int (nI cell)] (mW E ad S) none (mW E ad S') := by
  generalize hst : 64 * t + cell = st at hok
  generalize hokk : okS (S.1 10) (S.1 9 s) = ok at hok
  have okT : ∀ T : MS, (∀ a, a ≠ 11 → a ≠ 12 → a ≠ 13 → T.1 a = S.1 a) → okS (T.1 10) (T.1 9 s) = ok := fun T h => by rw [h 10 (by decide) (by decide) (by decide), h 9 (by decide) (by decide) (by decide)]; exact hokk
  -- one stand of the queue: its six moves
  have loop : ∀ (n : Nat) (T : MS) (w k : Nat) (q d : Nat → Nat), bfI S ok st T w k 0 q d → 257 ≤ k + n → 0 < w → q 0 = st → d 0 = 0 →
      ∃ S', rdFar (S.1 10) (S.1 9 s) st S S' ∧ ∀ X : Bn, Cx X cX8_findFar 9 RX8 wsX8_findFar 4 93 → Ends X none none (mW X.E ad S') → At X 9 (mW X.E ad T) 48 [(0, .ref (ad 0)), (1, .int (nI s)), (4, .int (nI k))] [] := by
    intro n
    induction n with
    | zero =>
      intro T w k q d h hn
      have := bf_room h
      have := h.1.2.2.2
      omega
    | succ n ih =>
      intro T w k q d h hn h0 hq0 hd0
      have hw := bf_room h
      by_cases hk : k < w
      · obtain ⟨g1, g2, g3, g4, g5⟩ := h.2.1 k hk
        generalize hσ : q k = σ at g1 g2 g3
        have room : ∀ {T : MS} {w j : Nat} {q d : Nat → Nat}, bfI S ok st T w k j q d → ∀ τ, τ < 256 → T.1 11 τ = -1 → w < 256 := fun b τ hτ z => (bf_new b hτ z).2
        have cm := fun {T : MS} {w j : Nat} {q d' : Nat → Nat} (b : bfI S ok st T w k j q d') => comes_mv (T := T) (s := s) (σ := σ) (w := w) (m := d k + 1) (ok := ok) hs g1 (by have := bf_room b; omega) (okT T b.1.1) b.1.2.2.1 (room b)
        have c0 := cm h
        obtain ⟨w1, q1, d1, b1, l1, a1⟩ := bf_step h hk (j := 0) (by decide)
        rw [hσ] at b1
        rw [← c0.1.1] at b1
        obtain ⟨T1, hT1⟩ : ∃ T1, T1 = s_X8_comes T (nI s) (nI (σ / 64)) (nI (σ % 64 / 8) - 1) (nI (σ % 8)) (nI (d k + 1)) := ⟨_, rfl⟩
        rw [← hT1] at b1
        have c1 := cm b1
        obtain ⟨w2, q2, d2, b2, l2, a2⟩ := bf_step b1 (by omega) (j := 1) (by decide)
        rw [(a1 k hk).1, (a1 k hk).2, hσ, ← c1.2.1.1] at b2
        obtain ⟨T2, hT2⟩ : ∃ T2, T2 = s_X8_comes T1 (nI s) (nI (σ / 64)) (nI (σ % 64 / 8)) (nI (σ % 8) + 1) (nI (d k + 1)) := ⟨_, rfl⟩
        rw [← hT2] at b2
        have c2 := cm b2
        have a2' : ∀ i, i < w → q2 i = q i ∧ d2 i = d i := fun i hi => ⟨(a2 i (by omega)).1.trans (a1 i hi).1, (a2 i (by omega)).2.trans (a1 i hi).2⟩
        obtain ⟨w3, q3, d3, b3, l3, a3⟩ := bf_step b2 (by omega) (j := 2) (by decide)
        rw [(a2' k hk).1, (a2' k hk).2, hσ, ← c2.2.2.1.1] at b3
        obtain ⟨T3, hT3⟩ : ∃ T3, T3 = s_X8_comes T2 (nI s) (nI (σ / 64)) (nI (σ % 64 / 8) + 1) (nI (σ % 8)) (nI (d k + 1)) := ⟨_, rfl⟩
        rw [← hT3] at b3
        have c3 := cm b3
        have a3' : ∀ i, i < w → q3 i = q i ∧ d3 i = d i := fun i hi => ⟨(a3 i (by omega)).1.trans (a2' i hi).1, (a3 i (by omega)).2.trans (a2' i hi).2⟩
        obtain ⟨w4, q4, d4, b4, l4, a4⟩ := bf_step b3 (by omega) (j := 3) (by decide)
        rw [(a3' k hk).1, (a3' k hk).2, hσ, ← c3.2.2.2.1.1] at b4
        obtain ⟨T4, hT4⟩ : ∃ T4, T4 = s_X8_comes T3 (nI s) (nI (σ / 64)) (nI (σ % 64 / 8)) (nI (σ % 8) - 1) (nI (d k + 1)) := ⟨_, rfl⟩
        rw [← hT4] at b4
        have c4 := cm b4
        have a4' : ∀ i, i < w → q4 i = q i ∧ d4 i = d i := fun i hi => ⟨(a4 i (by omega)).1.trans (a3' i hi).1, (a4 i (by omega)).2.trans (a3' i hi).2⟩
        obtain ⟨w5, q5, d5, b5, l5, a5⟩ := bf_step b4 (by omega) (j := 4) (by decide)
        rw [(a4' k hk).1, (a4' k hk).2, hσ, ← c4.2.2.2.2.1.1] at b5
        obtain ⟨T5, hT5⟩ : ∃ T5, T5 = s_X8_comes T4 (nI s) (irm (nI (σ / 64) + 1) 4) (nI (σ % 64 / 8)) (nI (σ % 8)) (nI (d k + 1)) := ⟨_, rfl⟩
        rw [← hT5] at b5
        have c5 := cm b5
        have a5' : ∀ i, i < w → q5 i = q i ∧ d5 i = d i := fun i hi => ⟨(a5 i (by omega)).1.trans (a4' i hi).1, (a5 i (by omega)).2.trans (a4' i hi).2⟩
        obtain ⟨w6, q6, d6, b6, l6, a6⟩ := bf_step b5 (by omega) (j := 5) (by decide)
        rw [(a5' k hk).1, (a5' k hk).2, hσ, ← c5.2.2.2.2.2.1] at b6
        obtain ⟨T6, hT6⟩ : ∃ T6, T6 = s_X8_comes T5 (nI s) (irm (nI (σ / 64) + 3) 4) (nI (σ % 64 / 8)) (nI (σ % 8)) (nI (d k + 1)) := ⟨_, rfl⟩
        rw [← hT6] at b6
        have a6' : ∀ i, i < w → q6 i = q i ∧ d6 i = d i := fun i hi => ⟨(a6 i (by omega)).1.trans (a5' i hi).1, (a6 i (by omega)).2.trans (a5' i hi).2⟩
        obtain ⟨S', hS', hgo⟩ := ih T6 w6 (k + 1) q6 d6 (bf_next b6 (by omega)) (by omega) (by omega) ((a6' 0 h0).1.trans hq0) ((a6' 0 h0).2.trans hd0)
        refine ⟨S', hS', fun X C hE => ?_⟩
        have next := hgo X C hE
        have vk : vp_in (nI k) 256 := vp_in_nI (by omega) (by decide)
        have eA : T.1 12 (nI k).toNatClampNeg = nI σ := by rw [nI_clamp (by omega)]; exact g2
        have e64 : nI σ / 64 = nI (σ / 64) := pk_div (d := 64) (by omega) (by decide) (by decide)
        have m64 : irm (nI σ) 64 = nI (σ % 64) := irm_nI (d := 64) (by omega) (by decide) (by decide)
        have m8 : irm (nI σ) 8 = nI (σ % 8) := irm_nI (d := 8) (by omega) (by decide) (by decide)
        have d8 : nI (σ % 64) / 8 = nI (σ % 64 / 8) := pk_div (d := 8) (by omega) (by decide) (by decide)
        have e11 : T.1 11 (nI σ).toNatClampNeg + 1 = nI (d k + 1) := by rw [nI_clamp (by omega), g3, nI_1]
        refine r_X8_findFar_48 C ad T (nI s) (nI k) ⟨fun z => nlt_no (b := w) (by omega) hk (by rw [h.1.2.2.1] at z; exact z), fun _ => ?_⟩
        rw [eA, e64, m64, d8, m8, e11]
        refine ⟨vk, vk, vk, vk, vp_in_nI g1 (by decide), T1, ?_, T2, ?_, T3, ?_, T4, ?_, T5, ?_, T6, ?_, ?_⟩
        · rw [hT1]; exact c_X8_comes X.l X.D X.E X.a1 X.a2 ad T _ _ _ _ _ c0.1.2
        · rw [hT2]; exact c_X8_comes X.l X.D X.E X.a1 X.a2 ad T1 _ _ _ _ _ c1.2.1.2
        · rw [hT3]; exact c_X8_comes X.l X.D X.E X.a1 X.a2 ad T2 _ _ _ _ _ c2.2.2.1.2
        · rw [hT4]; exact c_X8_comes X.l X.D X.E X.a1 X.a2 ad T3 _ _ _ _ _ c3.2.2.2.1.2
        · rw [hT5]; exact c_X8_comes X.l X.D X.E X.a1 X.a2 ad T4 _ _ _ _ _ c4.2.2.2.2.1.2
        · rw [hT6]; exact c_X8_comes X.l X.D X.E X.a1 X.a2 ad T5 _ _ _ _ _ c5.2.2.2.2.2.2
        · rw [nI_1]; exact next
      · have ek : k = w := by have := h.1.2.2.2; omega
        subst ek
        refine ⟨T, ⟨by rw [hokk]; exact bf_end h h0 hq0 hd0, h.1.1, h.1.2.1⟩, fun X C hE => ?_⟩
        exact r_X8_findFar_48 C ad T (nI s) (nI k) ⟨fun _ => hE, fun z => absurd (by rw [h.1.2.2.1]; exact Int32.le_refl _) z⟩
  -- all stands are new; the first one comes
  obtain ⟨F0, hF0⟩ : ∃ F0, F0 = itF (fun i f => upd f i (-1)) 0 256 (S.1 11) := ⟨_, rfl⟩
  have F0v : ∀ σ, σ < 256 → F0 σ = -1 := by
    have := itF_inv (N := 256) (fun i (f : Nat → Int32) => ∀ j, j < i → f j = -1) (fun i f => upd f i (-1)) (fun i f _ hf j hj => by
      by_cases e : j = i
      · subst e; exact pk_us
      · rw [pk_un e]; exact hf j (by omega)) 256 0 (S.1 11) rfl (fun j hj => absurd hj (Nat.not_lt_zero j))
    rw [hF0]; exact this
  obtain ⟨T0, hT0⟩ : ∃ T0, T0 = pg (setF S 11 F0) 13 0 0 := ⟨_, rfl⟩
  have t0 : ∀ a, a ≠ 11 → a ≠ 12 → a ≠ 13 → T0.1 a = S.1 a := fun a a1 a2 a3 => by rw [hT0, pg_r a3, setF_o a1]
  have t11 : ∀ σ, σ < 256 → T0.1 11 σ = -1 := fun σ hσ => by rw [hT0, pg_o (by decide), setF_k]; exact F0v σ hσ
  have t13 : T0.1 13 0 = nI 0 := by rw [hT0, pg_s]; rfl
  obtain ⟨cs1, cs2⟩ := comes_some (T := T0) (s := s) (t := t) (r := cell / 8) (c := cell % 8) (w := 0) (m := 0) hs ht (by omega) (by omega) (by decide) t13 (fun _ => by decide)
  rw [okT T0 t0, show 64 * t + 8 * (cell / 8) + cell % 8 = st by omega] at cs1
  have cs3 : comeT ok T0 0 0 (some st) = pg (pg (pg T0 11 st (nI 0)) 12 0 (nI st)) 13 0 (nI 1) := if_pos ⟨t11 st (by omega), hok⟩
  rw [cs3] at cs1
  obtain ⟨T1, hT1⟩ : ∃ T1, T1 = pg (pg (pg T0 11 st (nI 0)) 12 0 (nI st)) 13 0 (nI 1) := ⟨_, rfl⟩
  rw [← hT1] at cs1
  have b1 : bfI S ok st T1 1 0 0 (fun _ => st) (fun _ => 0) := by
    refine ⟨⟨fun a a1 a2 a3 => by rw [hT1, pg_r a3, pg_r a2, pg_r a1]; exact t0 a a1 a2 a3, by rw [hT1, pg_2, pg_2, pg_2, hT0, pg_2, setF_2], by rw [hT1, pg_s], by omega⟩, fun i hi => ?_, fun a b hab hb => by omega, fun σ hσ hn => ?_, fun i a hi hia => by omega, fun _ i hi => Nat.zero_le _⟩
    · have : i = 0 := by omega
      subst this
      refine ⟨by show st < 256; omega, ?_, ?_, Nat.le_refl _, rfl⟩
      · rw [hT1, pg_o (by decide), pg_s]
      · rw [hT1, pg_o (by decide), pg_o (by decide), pg_s]
    · by_cases e : σ = st
      · exact ⟨0, by decide, e.symm⟩
      · rw [hT1, pg_o (by decide), pg_o (by decide), pg_n e, t11 σ hσ] at hn
        exact absurd rfl hn
  obtain ⟨S', hS', hgo⟩ := loop 257 T1 1 0 (fun _ => st) (fun _ => 0) b1 (by omega) (by decide) rfl rfl
  refine ⟨S', hS', fun l D E a1 a2 => ?_⟩
  refine Fn.of (cc := cX8_findFar) (maxL := 9) (ret := none) (own := RX8) (by decide) rfl rfl (sameM _ _ _ _) (Nat.le_of_ble_eq_true rfl) (fun X h1 h2 h3 h4 h5 C hE => ?_)
  subst h1 h2 h3 h4 h5
  refine r_X8_findFar_0 C ad S (nI s) (nI t) (nI cell) ?_
  have e0 : mW X.E ad S = mW X.E ad (setF S 11 (S.1 11)) := by rw [setF_self]
  rw [e0]
  refine for_go (P := fun i f => At X 9 (mW X.E ad (setF S 11 f)) 3 [(0, .ref (ad 0)), (1, .int (nI s)), (2, .int (nI t)), (3, .int (nI cell)), (4, .int (nI i))] []) (N := 256) (fun i f => upd f i (-1)) (fun i f hi h => ?_) 256 0 (S.1 11) rfl ?_
  · refine r_X8_findFar_3 C ad _ (nI s) (nI t) (nI cell) (nI i) ⟨fun q => nlt_no (by decide) hi q, fun _ => ⟨vp_in_nI hi (by decide), ?_⟩⟩
    rw [nI_clamp (by omega), nI_1, setF_pg]
    exact h
  · rw [← hF0]
    refine r_X8_findFar_3 C ad _ (nI s) (nI t) (nI cell) (nI 256) ⟨fun _ => ⟨T1, ?_, hgo X C hE⟩, fun q => nle_no q⟩
    rw [← hT0, ← cs1, show nI cell / 8 = nI (cell / 8) from pk_div (d := 8) (by omega) (by decide) (by decide), show irm (nI cell) 8 = nI (cell % 8) from irm_nI (d := 8) (by omega) (by decide) (by decide)]
    exact c_X8_comes X.l X.D X.E X.a1 X.a2 ad T0 _ _ _ _ _ cs2
set_option maxRecDepth 20000 in
theorem ggX8_throughOf_X8_turned : GoodIn wsX8_throughOf wsX8_turned := goodIn_r _ [6, 7, 8, 5, 9, 10, 11, 12] (by decide +kernel) (by decide +kernel)
set_option maxRecDepth 20000 in
theorem gX8_throughOf_X8_turned : GoodIn wsX8_throughOf (va_wsS RX8 132 yX8_turned wsX8_turned) := goodIn_app (goodIn_of _ (by decide +kernel)) ggX8_throughOf_X8_turned
set_option maxRecDepth 20000 in
theorem ggX8_throughOf_X8_canStand : GoodIn wsX8_throughOf wsX8_canStand := goodIn_r _ [16, 17, 10, 11, 5, 12, 18, 19, 20, 35, 36, 37, 38, 39, 40, 41, 42, 43, 44, 45, 46, 47, 48, 49, 50, 51, 52] (by decide +kernel) (by decide +kernel)
set_option maxRecDepth 20000 in
theorem gX8_throughOf_X8_canStand : GoodIn wsX8_throughOf (wsV RX8 192 RX8 yX8_canStand wsX8_canStand) := goodIn_app (goodIn_of _ (by decide +kernel)) ggX8_throughOf_X8_canStand
set_option maxRecDepth 20000 in
theorem ggX8_throughOf_X8_findFar : GoodIn wsX8_throughOf wsX8_findFar := goodIn_r _ [24, 2, 25, 26, 27, 28, 29, 5, 30, 31, 1, 32, 33, 34, 3, 4, 6, 7, 8, 9, 10, 11, 12, 13, 14, 15, 16, 17, 18, 19, 20, 35, 36, 37, 38, 39, 40, 41, 42, 43, 44, 45, 46, 47, 48, 49, 50, 51, 52] (by decide +kernel) (by decide +kernel)
set_option maxRecDepth 20000 in
theorem gX8_throughOf_X8_findFar : GoodIn wsX8_throughOf (wsV RX8 204 RX8 yX8_findFar wsX8_findFar) := goodIn_app (goodIn_of _ (by decide +kernel)) ggX8_throughOf_X8_findFar
theorem dX8_throughOf_0 : decode cX8_throughOf 0 = .ok (.aload_n 0, 1) := by decide +kernel
theorem dX8_throughOf_1 : decode cX8_throughOf 1 = .ok (.aload_n 0, 1) := by decide +kernel
theorem dX8_throughOf_2 : decode cX8_throughOf 2 = .ok (.getfield 28, 3) := by decide +kernel
theorem dX8_throughOf_5 : decode cX8_throughOf 5 = .ok (.iload_n 1, 1) := by decide +kernel
theorem dX8_throughOf_6 : decode cX8_throughOf 6 = .ok (.iaload, 1) := by decide +kernel
theorem dX8_throughOf_7 : decode cX8_throughOf 7 = .ok (.iload_n 2, 1) := by decide +kernel
theorem dX8_throughOf_8 : decode cX8_throughOf 8 = .ok (.invokestatic 132, 3) := by decide +kernel
theorem dX8_throughOf_11 : decode cX8_throughOf 11 = .ok (.iload_n 3, 1) := by decide +kernel
theorem dX8_throughOf_12 : decode cX8_throughOf 12 = .ok (.invokevirtual 192, 3) := by decide +kernel
theorem dX8_throughOf_15 : decode cX8_throughOf 15 = .ok (.ifCond .eq 23, 3) := by decide +kernel
theorem dX8_throughOf_18 : decode cX8_throughOf 18 = .ok (.aload_n 0, 1) := by decide +kernel
theorem dX8_throughOf_19 : decode cX8_throughOf 19 = .ok (.aload_n 0, 1) := by decide +kernel
theorem dX8_throughOf_20 : decode cX8_throughOf 20 = .ok (.getfield 28, 3) := by decide +kernel
theorem dX8_throughOf_23 : decode cX8_throughOf 23 = .ok (.iload_n 1, 1) := by decide +kernel
theorem dX8_throughOf_24 : decode cX8_throughOf 24 = .ok (.iaload, 1) := by decide +kernel
theorem dX8_throughOf_25 : decode cX8_throughOf 25 = .ok (.iload 4, 2) := by decide +kernel
theorem dX8_throughOf_27 : decode cX8_throughOf 27 = .ok (.invokestatic 132, 3) := by decide +kernel
theorem dX8_throughOf_30 : decode cX8_throughOf 30 = .ok (.iload 5, 2) := by decide +kernel
theorem dX8_throughOf_32 : decode cX8_throughOf 32 = .ok (.invokevirtual 192, 3) := by decide +kernel
theorem dX8_throughOf_35 : decode cX8_throughOf 35 = .ok (.ifCond .ne 6, 3) := by decide +kernel
theorem dX8_throughOf_38 : decode cX8_throughOf 38 = .ok (.bipush (-3), 2) := by decide +kernel
theorem dX8_throughOf_40 : decode cX8_throughOf 40 = .ok (.ireturn, 1) := by decide +kernel
theorem dX8_throughOf_41 : decode cX8_throughOf 41 = .ok (.aload_n 0, 1) := by decide +kernel
theorem dX8_throughOf_42 : decode cX8_throughOf 42 = .ok (.iload_n 1, 1) := by decide +kernel
theorem dX8_throughOf_43 : decode cX8_throughOf 43 = .ok (.iload_n 2, 1) := by decide +kernel
theorem dX8_throughOf_44 : decode cX8_throughOf 44 = .ok (.iload_n 3, 1) := by decide +kernel
theorem dX8_throughOf_45 : decode cX8_throughOf 45 = .ok (.invokevirtual 204, 3) := by decide +kernel
theorem dX8_throughOf_48 : decode cX8_throughOf 48 = .ok (.aload_n 0, 1) := by decide +kernel
theorem dX8_throughOf_49 : decode cX8_throughOf 49 = .ok (.getfield 35, 3) := by decide +kernel
theorem dX8_throughOf_52 : decode cX8_throughOf 52 = .ok (.bipush 64, 2) := by decide +kernel
theorem dX8_throughOf_54 : decode cX8_throughOf 54 = .ok (.iload 4, 2) := by decide +kernel
theorem dX8_throughOf_56 : decode cX8_throughOf 56 = .ok (.imul, 1) := by decide +kernel
theorem dX8_throughOf_57 : decode cX8_throughOf 57 = .ok (.iload 5, 2) := by decide +kernel
theorem dX8_throughOf_59 : decode cX8_throughOf 59 = .ok (.iadd, 1) := by decide +kernel
theorem dX8_throughOf_60 : decode cX8_throughOf 60 = .ok (.iaload, 1) := by decide +kernel
theorem dX8_throughOf_61 : decode cX8_throughOf 61 = .ok (.ireturn, 1) := by decide +kernel
theorem iw_X8_throughOf_X8 : ∀ w ∈ u_ws RX8 TX8 18, w ∈ wsX8_throughOf := by decide +kernel
theorem lk_X8_throughOf_0 : Cond.fieldLink RX8 28 (TX8 9).1 (TX8 9).2.1 (TX8 9).2.2.1 ∈ wsX8_throughOf := by decide +kernel
theorem lk_X8_throughOf_1 : Cond.fieldLink RX8 35 (TX8 11).1 (TX8 11).2.1 (TX8 11).2.2.1 ∈ wsX8_throughOf := by decide +kernel
set_option maxRecDepth 100000 in
theorem r_X8_throughOf_0 {X : Bn} (C : Cx X cX8_throughOf 6 RX8 wsX8_throughOf 5 121) (ad : Nat → Nat) (S : MS) (x1 : Int32) (x2 : Int32) (x3 : Int32) (x4 : Int32) (x5 : Int32) (h : (vp_in x1 8) ∧ ((p_X8_canStand x3) ∧ ((((f_X8_canStand S (f_X8_turned (S.1 9 x1.toNatClampNeg) x2) x3) = true) → ((vp_in x1 8) ∧ ((p_X8_canStand x5) ∧ ((((f_X8_canStand S (f_X8_turned (S.1 9 x1.toNatClampNeg) x4) x5) = true) → (∃ (S1 : MS), (Fn X.l X.D X.E X.a1 X.a2 yX8_findFar wsX8_findFar 4 93 [.ref (ad 0), .int x1, .int x2, .int x3] (mW X.E ad S) none (mW X.E ad S1)) ∧ ((vp_in ((64 * x4) + x5) 256) ∧ (Ends X (some .int) (some (.int (S1.1 11 (((64 * x4) + x5).toNatClampNeg)))) (mW X.E ad S1))))) ∧ ((f_X8_canStand S (f_X8_turned (S.1 9 x1.toNatClampNeg) x4) x5) = false → (Ends X (some .int) (some (.int (-3))) (mW X.E ad S))))))) ∧ ((f_X8_canStand S (f_X8_turned (S.1 9 x1.toNatClampNeg) x2) x3) = false → (Ends X (some .int) (some (.int (-3))) (mW X.E ad S)))))) : At X 6 (mW X.E ad S) 0 [(0, .ref (ad 0)), (1, .int x1), (2, .int x2), (3, .int x3), (4, .int x4), (5, .int x5)] [] := by
  refine at_aload_n C dX8_throughOf_0 rfl (j := 0) rfl ?_
  refine at_aload_n C dX8_throughOf_1 rfl (j := 0) rfl ?_
  refine at_get C (K := RX8) (T := TX8) (N := 18) (ci := 7) (v := .ref (ad 7)) iw_X8_throughOf_X8 0 mW_c0 rfl 9 (by decide) lk_X8_throughOf_0 rfl dX8_throughOf_2 ?_
  refine at_iload_n C dX8_throughOf_5 rfl (j := 1) rfl ?_
  refine at_iald C 7 mW_c7 h.1 dX8_throughOf_6 ?_
  replace h := h.2
  refine at_iload_n C dX8_throughOf_7 rfl (j := 2) rfl ?_
  refine at_cS0 C 2 (c_X8_turned X.l X.D X.E X.a1 X.a2 (S.1 9 x1.toNatClampNeg) x2) gX8_throughOf_X8_turned rfl (by decide +kernel) ⟨rfl, rfl⟩ rfl rfl rfl dX8_throughOf_8 ?_
  refine at_iload_n C dX8_throughOf_11 rfl (j := 3) rfl ?_
  refine at_cV1 C 2 (c_X8_canStand X.l X.D X.E X.a1 X.a2 ad S (f_X8_turned (S.1 9 x1.toNatClampNeg) x2) x3 h.1) gX8_throughOf_X8_canStand rfl (by decide +kernel) ⟨rfl, rfl⟩ rfl rfl rfl 0 mW_c0 rfl dX8_throughOf_12 ?_
  replace h := h.2
  refine at_ifB_eq C dX8_throughOf_15 (tgt := 38) (by decide) (fun hc0 => ?_) (fun hc0 => ?_)
  · replace h := h.2 hc0
    refine at_bipush C dX8_throughOf_38 (v := (-3)) rfl ?_
    exact at_iret C dX8_throughOf_40 h
  · replace h := h.1 hc0
    refine at_aload_n C dX8_throughOf_18 rfl (j := 0) rfl ?_
    refine at_aload_n C dX8_throughOf_19 rfl (j := 0) rfl ?_
    refine at_get C (K := RX8) (T := TX8) (N := 18) (ci := 7) (v := .ref (ad 7)) iw_X8_throughOf_X8 0 mW_c0 rfl 9 (by decide) lk_X8_throughOf_0 rfl dX8_throughOf_20 ?_
    refine at_iload_n C dX8_throughOf_23 rfl (j := 1) rfl ?_
    refine at_iald C 7 mW_c7 h.1 dX8_throughOf_24 ?_
    replace h := h.2
    refine at_iload C dX8_throughOf_25 (j := 4) rfl ?_
    refine at_cS0 C 2 (c_X8_turned X.l X.D X.E X.a1 X.a2 (S.1 9 x1.toNatClampNeg) x4) gX8_throughOf_X8_turned rfl (by decide +kernel) ⟨rfl, rfl⟩ rfl rfl rfl dX8_throughOf_27 ?_
    refine at_iload C dX8_throughOf_30 (j := 5) rfl ?_
    refine at_cV1 C 2 (c_X8_canStand X.l X.D X.E X.a1 X.a2 ad S (f_X8_turned (S.1 9 x1.toNatClampNeg) x4) x5 h.1) gX8_throughOf_X8_canStand rfl (by decide +kernel) ⟨rfl, rfl⟩ rfl rfl rfl 0 mW_c0 rfl dX8_throughOf_32 ?_
    replace h := h.2
    refine at_ifB_ne C dX8_throughOf_35 (tgt := 41) (by decide) (fun hc1 => ?_) (fun hc1 => ?_)
    · replace h := h.1 hc1
      refine at_aload_n C dX8_throughOf_41 rfl (j := 0) rfl ?_
      refine at_iload_n C dX8_throughOf_42 rfl (j := 1) rfl ?_
      refine at_iload_n C dX8_throughOf_43 rfl (j := 2) rfl ?_
      refine at_iload_n C dX8_throughOf_44 rfl (j := 3) rfl ?_
      obtain ⟨S1, hF1, h⟩ := h
      refine at_cV1v C 3 hF1 gX8_throughOf_X8_findFar rfl (by decide +kernel) ⟨rfl, rfl⟩ rfl rfl rfl 0 mW_c0 rfl dX8_throughOf_45 ?_
      refine at_aload_n C dX8_throughOf_48 rfl (j := 0) rfl ?_
      refine at_get C (K := RX8) (T := TX8) (N := 18) (ci := 7) (v := .ref (ad 9)) iw_X8_throughOf_X8 0 mW_c0 rfl 11 (by decide) lk_X8_throughOf_1 rfl dX8_throughOf_49 ?_
      refine at_bipush C dX8_throughOf_52 (v := 64) rfl ?_
      refine at_iload C dX8_throughOf_54 (j := 4) rfl ?_
      refine at_imul C dX8_throughOf_56 ?_
      refine at_iload C dX8_throughOf_57 (j := 5) rfl ?_
      refine at_iadd C dX8_throughOf_59 ?_
      refine at_iald C 9 mW_c9 h.1 dX8_throughOf_60 ?_
      replace h := h.2
      exact at_iret C dX8_throughOf_61 h
    · replace h := h.2 hc1
      refine at_bipush C dX8_throughOf_38 (v := (-3)) rfl ?_
      exact at_iret C dX8_throughOf_40 h
def keepF (S S' : MS) : Prop := (∀ a, a ≠ 11 → a ≠ 12 → a ≠ 13 → S'.1 a = S.1 a) ∧ S'.2 = S.2
theorem keepF.rf (S : MS) : keepF S S := ⟨fun _ _ _ _ => rfl, rfl⟩
/-- the fewest steps from one stand to another one -/
def thrR (ok : Nat → Bool) (st tg : Nat) (r : Int32) : Prop :=
  ((ok st = true ∧ ok tg = true) ∧ ((r = -1 ∧ ∀ n, ¬ rch ok st n tg) ∨ ∃ m, m ≤ 256 ∧ r = nI m ∧ rch ok st m tg ∧ ∀ n, rch ok st n tg → m ≤ n)) ∨ (¬ (ok st = true ∧ ok tg = true) ∧ r = -3)
theorem thrR_one {ok : Nat → Bool} {st tg : Nat} {r r' : Int32} (h : thrR ok st tg r) (h' : thrR ok st tg r') : r = r' := by
  rcases h with ⟨h1, h2⟩ | ⟨h1, h2⟩ <;> rcases h' with ⟨h3, h4⟩ | ⟨h3, h4⟩
  · rcases h2 with ⟨e, hn⟩ | ⟨m, _, e, hr, hm⟩ <;> rcases h4 with ⟨e', hn'⟩ | ⟨m', _, e', hr', hm'⟩
    · rw [e, e']
    · exact absurd hr' (hn m')
    · exact absurd hr (hn' m)
    · rw [e, e']; exact congrArg nI (Nat.le_antisymm (hm m' hr') (hm' m hr))
  · exact absurd h1 h3
  · exact absurd h3 h1
  · rw [h2, h4]
theorem can_ok {S : MS} {x : Int32} {t cell : Nat} (hc : cell < 64) : f_X8_canStand S (f_X8_turned x (nI t)) (nI cell) = okS (S.1 10) x (64 * t + cell) := by
  rw [← okS_eq, show (64 * t + cell) / 64 = t by omega, show (64 * t + cell) % 64 = cell by omega]
theorem c_X8_throughOf (ad : Nat → Nat) (S : MS) {s t cell u to : Nat} (hs : s < 8) (ht : t < 4) (hc : cell < 64) (hu : u < 4) (hto : to < 64) :
    ∃ r S', thrR (okS (S.1 10) (S.1 9 s)) (64 * t + cell) (64 * u + to) r ∧ keepF S S' ∧ ∀ (l : Launch) (D : va_G) (E : Nat → ClassId) (a1 a2 : Nat), Fn l D E a1 a2 yX8_throughOf wsX8_throughOf 5 121 [.ref (ad 0), .int (nI s), .int (nI t), .int (nI cell), .int (nI u), .int (nI to)] (mW E ad S) (some (.int r)) (mW E ad S') := by
  have cs : (nI s).toNatClampNeg = s := nI_clamp (by omega)
  have v8 : vp_in (nI s) 8 := vp_in_nI hs (by decide)
  have p1 : p_X8_canStand (nI cell) := ⟨cell, hc, rfl⟩
  have p2 : p_X8_canStand (nI to) := ⟨to, hto, rfl⟩
  by_cases h1 : okS (S.1 10) (S.1 9 s) (64 * t + cell) = true
  · by_cases h2 : okS (S.1 10) (S.1 9 s) (64 * u + to) = true
    · obtain ⟨S', ⟨hf, hk1, hk2⟩, hF⟩ := c_X8_findFar ad S hs ht hc h1
      refine ⟨S'.1 11 (64 * u + to), S', Or.inl ⟨⟨h1, h2⟩, hf _ (by omega)⟩, ⟨hk1, hk2⟩, fun l D E a1 a2 => ?_⟩
      refine Fn.of (cc := cX8_throughOf) (maxL := 6) (ret := (some .int)) (own := RX8) (by decide) rfl rfl (sameM _ _ _ _) (Nat.le_of_ble_eq_true rfl) (fun X h1' h2' h3 h4 h5 C hE => ?_)
      subst h1' h2' h3 h4 h5
      refine r_X8_throughOf_0 C ad S _ _ _ _ _ ?_
      rw [cs, can_ok hc, can_ok hto, show 64 * nI u + nI to = nI (64 * u + to) from by rw [show (64 : Int32) = nI 64 from rfl, pk_mul, nI_add], nI_clamp (show 64 * u + to < 2 ^ 31 by omega)]
      refine ⟨v8, p1, fun _ => ⟨v8, p2, fun _ => ⟨S', hF _ _ _ _ _, vp_in_nI (by omega) (by decide), hE⟩, fun z => ?_⟩, fun z => ?_⟩
      · rw [h2] at z; cases z
      · rw [h1] at z; cases z
    · refine ⟨-3, S, Or.inr ⟨fun z => h2 z.2, rfl⟩, keepF.rf S, fun l D E a1 a2 => ?_⟩
      refine Fn.of (cc := cX8_throughOf) (maxL := 6) (ret := (some .int)) (own := RX8) (by decide) rfl rfl (sameM _ _ _ _) (Nat.le_of_ble_eq_true rfl) (fun X h1' h2' h3 h4 h5 C hE => ?_)
      subst h1' h2' h3 h4 h5
      refine r_X8_throughOf_0 C ad S _ _ _ _ _ ?_
      rw [cs, can_ok hc, can_ok hto]
      exact ⟨v8, p1, fun _ => ⟨v8, p2, fun z => absurd z h2, fun _ => hE⟩, fun z => by rw [h1] at z; cases z⟩
  · refine ⟨-3, S, Or.inr ⟨fun z => h1 z.1, rfl⟩, keepF.rf S, fun l D E a1 a2 => ?_⟩
    refine Fn.of (cc := cX8_throughOf) (maxL := 6) (ret := (some .int)) (own := RX8) (by decide) rfl rfl (sameM _ _ _ _) (Nat.le_of_ble_eq_true rfl) (fun X h1' h2' h3 h4 h5 C hE => ?_)
    subst h1' h2' h3 h4 h5
    refine r_X8_throughOf_0 C ad S _ _ _ _ _ ?_
    rw [cs, can_ok hc]
    exact ⟨v8, p1, fun z => absurd z h1, fun _ => hE⟩
set_option maxRecDepth 20000 in
theorem ggX8_reachOf_X8_turned : GoodIn wsX8_reachOf wsX8_turned := goodIn_r _ [6, 7, 8, 5, 9, 10, 11, 12] (by decide +kernel) (by decide +kernel)
set_option maxRecDepth 20000 in
theorem gX8_reachOf_X8_turned : GoodIn wsX8_reachOf (va_wsS RX8 132 yX8_turned wsX8_turned) := goodIn_app (goodIn_of _ (by decide +kernel)) ggX8_reachOf_X8_turned
set_option maxRecDepth 20000 in
theorem ggX8_reachOf_X8_canStand : GoodIn wsX8_reachOf wsX8_canStand := goodIn_r _ [16, 17, 10, 11, 5, 12, 18, 19, 20, 35, 36, 37, 38, 39, 40, 41, 42, 43, 44, 45, 46, 47, 48, 49, 50, 51, 52] (by decide +kernel) (by decide +kernel)
set_option maxRecDepth 20000 in
theorem gX8_reachOf_X8_canStand : GoodIn wsX8_reachOf (wsV RX8 192 RX8 yX8_canStand wsX8_canStand) := goodIn_app (goodIn_of _ (by decide +kernel)) ggX8_reachOf_X8_canStand
set_option maxRecDepth 20000 in
theorem ggX8_reachOf_X8_findFar : GoodIn wsX8_reachOf wsX8_findFar := goodIn_r _ [24, 2, 25, 26, 27, 28, 29, 5, 30, 31, 1, 32, 33, 34, 3, 4, 6, 7, 8, 9, 10, 11, 12, 13, 14, 15, 16, 17, 18, 19, 20, 35, 36, 37, 38, 39, 40, 41, 42, 43, 44, 45, 46, 47, 48, 49, 50, 51, 52] (by decide +kernel) (by decide +kernel)
set_option maxRecDepth 20000 in
theorem gX8_reachOf_X8_findFar : GoodIn wsX8_reachOf (wsV RX8 204 RX8 yX8_findFar wsX8_findFar) := goodIn_app (goodIn_of _ (by decide +kernel)) ggX8_reachOf_X8_findFar
theorem dX8_reachOf_0 : decode cX8_reachOf 0 = .ok (.aload_n 0, 1) := by decide +kernel
theorem dX8_reachOf_1 : decode cX8_reachOf 1 = .ok (.aload_n 0, 1) := by decide +kernel
theorem dX8_reachOf_2 : decode cX8_reachOf 2 = .ok (.getfield 28, 3) := by decide +kernel
theorem dX8_reachOf_5 : decode cX8_reachOf 5 = .ok (.iload_n 1, 1) := by decide +kernel
theorem dX8_reachOf_6 : decode cX8_reachOf 6 = .ok (.iaload, 1) := by decide +kernel
theorem dX8_reachOf_7 : decode cX8_reachOf 7 = .ok (.iload_n 2, 1) := by decide +kernel
theorem dX8_reachOf_8 : decode cX8_reachOf 8 = .ok (.invokestatic 132, 3) := by decide +kernel
theorem dX8_reachOf_11 : decode cX8_reachOf 11 = .ok (.iload_n 3, 1) := by decide +kernel
theorem dX8_reachOf_12 : decode cX8_reachOf 12 = .ok (.invokevirtual 192, 3) := by decide +kernel
theorem dX8_reachOf_15 : decode cX8_reachOf 15 = .ok (.ifCond .ne 6, 3) := by decide +kernel
theorem dX8_reachOf_18 : decode cX8_reachOf 18 = .ok (.bipush (-3), 2) := by decide +kernel
theorem dX8_reachOf_20 : decode cX8_reachOf 20 = .ok (.ireturn, 1) := by decide +kernel
theorem dX8_reachOf_21 : decode cX8_reachOf 21 = .ok (.aload_n 0, 1) := by decide +kernel
theorem dX8_reachOf_22 : decode cX8_reachOf 22 = .ok (.iload_n 1, 1) := by decide +kernel
theorem dX8_reachOf_23 : decode cX8_reachOf 23 = .ok (.iload_n 2, 1) := by decide +kernel
theorem dX8_reachOf_24 : decode cX8_reachOf 24 = .ok (.iload_n 3, 1) := by decide +kernel
theorem dX8_reachOf_25 : decode cX8_reachOf 25 = .ok (.invokevirtual 204, 3) := by decide +kernel
theorem dX8_reachOf_28 : decode cX8_reachOf 28 = .ok (.iconst 0, 1) := by decide +kernel
theorem dX8_reachOf_29 : decode cX8_reachOf 29 = .ok (.istore 4, 2) := by decide +kernel
theorem dX8_reachOf_31 : decode cX8_reachOf 31 = .ok (.iconst 0, 1) := by decide +kernel
theorem dX8_reachOf_32 : decode cX8_reachOf 32 = .ok (.istore 5, 2) := by decide +kernel
theorem dX8_reachOf_34 : decode cX8_reachOf 34 = .ok (.iload 5, 2) := by decide +kernel
theorem dX8_reachOf_36 : decode cX8_reachOf 36 = .ok (.bipush 64, 2) := by decide +kernel
theorem dX8_reachOf_38 : decode cX8_reachOf 38 = .ok (.if_icmp .ge 70, 3) := by decide +kernel
theorem dX8_reachOf_41 : decode cX8_reachOf 41 = .ok (.iload 4, 2) := by decide +kernel
theorem dX8_reachOf_43 : decode cX8_reachOf 43 = .ok (.aload_n 0, 1) := by decide +kernel
theorem dX8_reachOf_44 : decode cX8_reachOf 44 = .ok (.getfield 35, 3) := by decide +kernel
theorem dX8_reachOf_47 : decode cX8_reachOf 47 = .ok (.iload 5, 2) := by decide +kernel
theorem dX8_reachOf_49 : decode cX8_reachOf 49 = .ok (.iaload, 1) := by decide +kernel
theorem dX8_reachOf_50 : decode cX8_reachOf 50 = .ok (.ifCond .ge 44, 3) := by decide +kernel
theorem dX8_reachOf_53 : decode cX8_reachOf 53 = .ok (.aload_n 0, 1) := by decide +kernel
theorem dX8_reachOf_54 : decode cX8_reachOf 54 = .ok (.getfield 35, 3) := by decide +kernel
theorem dX8_reachOf_57 : decode cX8_reachOf 57 = .ok (.bipush 64, 2) := by decide +kernel
theorem dX8_reachOf_59 : decode cX8_reachOf 59 = .ok (.iload 5, 2) := by decide +kernel
theorem dX8_reachOf_61 : decode cX8_reachOf 61 = .ok (.iadd, 1) := by decide +kernel
theorem dX8_reachOf_62 : decode cX8_reachOf 62 = .ok (.iaload, 1) := by decide +kernel
theorem dX8_reachOf_63 : decode cX8_reachOf 63 = .ok (.ifCond .ge 31, 3) := by decide +kernel
theorem dX8_reachOf_66 : decode cX8_reachOf 66 = .ok (.aload_n 0, 1) := by decide +kernel
theorem dX8_reachOf_67 : decode cX8_reachOf 67 = .ok (.getfield 35, 3) := by decide +kernel
theorem dX8_reachOf_70 : decode cX8_reachOf 70 = .ok (.sipush 128, 3) := by decide +kernel
theorem dX8_reachOf_73 : decode cX8_reachOf 73 = .ok (.iload 5, 2) := by decide +kernel
theorem dX8_reachOf_75 : decode cX8_reachOf 75 = .ok (.iadd, 1) := by decide +kernel
theorem dX8_reachOf_76 : decode cX8_reachOf 76 = .ok (.iaload, 1) := by decide +kernel
theorem dX8_reachOf_77 : decode cX8_reachOf 77 = .ok (.ifCond .ge 17, 3) := by decide +kernel
theorem dX8_reachOf_80 : decode cX8_reachOf 80 = .ok (.aload_n 0, 1) := by decide +kernel
theorem dX8_reachOf_81 : decode cX8_reachOf 81 = .ok (.getfield 35, 3) := by decide +kernel
theorem dX8_reachOf_84 : decode cX8_reachOf 84 = .ok (.sipush 192, 3) := by decide +kernel
theorem dX8_reachOf_87 : decode cX8_reachOf 87 = .ok (.iload 5, 2) := by decide +kernel
theorem dX8_reachOf_89 : decode cX8_reachOf 89 = .ok (.iadd, 1) := by decide +kernel
theorem dX8_reachOf_90 : decode cX8_reachOf 90 = .ok (.iaload, 1) := by decide +kernel
theorem dX8_reachOf_91 : decode cX8_reachOf 91 = .ok (.ifCond .lt 7, 3) := by decide +kernel
theorem dX8_reachOf_94 : decode cX8_reachOf 94 = .ok (.iconst 1, 1) := by decide +kernel
theorem dX8_reachOf_95 : decode cX8_reachOf 95 = .ok (.goto 4, 3) := by decide +kernel
theorem dX8_reachOf_98 : decode cX8_reachOf 98 = .ok (.iconst 0, 1) := by decide +kernel
theorem dX8_reachOf_99 : decode cX8_reachOf 99 = .ok (.iadd, 1) := by decide +kernel
theorem dX8_reachOf_100 : decode cX8_reachOf 100 = .ok (.istore 4, 2) := by decide +kernel
theorem dX8_reachOf_102 : decode cX8_reachOf 102 = .ok (.iinc 5 1, 3) := by decide +kernel
theorem dX8_reachOf_105 : decode cX8_reachOf 105 = .ok (.goto (-71), 3) := by decide +kernel
theorem dX8_reachOf_108 : decode cX8_reachOf 108 = .ok (.iload 4, 2) := by decide +kernel
theorem dX8_reachOf_110 : decode cX8_reachOf 110 = .ok (.ireturn, 1) := by decide +kernel
theorem iw_X8_reachOf_X8 : ∀ w ∈ u_ws RX8 TX8 18, w ∈ wsX8_reachOf := by decide +kernel
theorem lk_X8_reachOf_0 : Cond.fieldLink RX8 28 (TX8 9).1 (TX8 9).2.1 (TX8 9).2.2.1 ∈ wsX8_reachOf := by decide +kernel
theorem lk_X8_reachOf_1 : Cond.fieldLink RX8 35 (TX8 11).1 (TX8 11).2.1 (TX8 11).2.2.1 ∈ wsX8_reachOf := by decide +kernel
set_option maxRecDepth 100000 in
theorem r_X8_reachOf_0 {X : Bn} (C : Cx X cX8_reachOf 6 RX8 wsX8_reachOf 5 121) (ad : Nat → Nat) (S : MS) (x1 : Int32) (x2 : Int32) (x3 : Int32) (h : (vp_in x1 8) ∧ ((p_X8_canStand x3) ∧ ((((f_X8_canStand S (f_X8_turned (S.1 9 x1.toNatClampNeg) x2) x3) = true) → (∃ (S1 : MS), (Fn X.l X.D X.E X.a1 X.a2 yX8_findFar wsX8_findFar 4 93 [.ref (ad 0), .int x1, .int x2, .int x3] (mW X.E ad S) none (mW X.E ad S1)) ∧ (At X 6 (mW X.E ad S1) 34 [(0, .ref (ad 0)), (4, .int 0), (5, .int 0)] []))) ∧ ((f_X8_canStand S (f_X8_turned (S.1 9 x1.toNatClampNeg) x2) x3) = false → (Ends X (some .int) (some (.int (-3))) (mW X.E ad S)))))) : At X 6 (mW X.E ad S) 0 [(0, .ref (ad 0)), (1, .int x1), (2, .int x2), (3, .int x3)] [] := by
  refine at_aload_n C dX8_reachOf_0 rfl (j := 0) rfl ?_
  refine at_aload_n C dX8_reachOf_1 rfl (j := 0) rfl ?_
  refine at_get C (K := RX8) (T := TX8) (N := 18) (ci := 7) (v := .ref (ad 7)) iw_X8_reachOf_X8 0 mW_c0 rfl 9 (by decide) lk_X8_reachOf_0 rfl dX8_reachOf_2 ?_
  refine at_iload_n C dX8_reachOf_5 rfl (j := 1) rfl ?_
  refine at_iald C 7 mW_c7 h.1 dX8_reachOf_6 ?_
  replace h := h.2
  refine at_iload_n C dX8_reachOf_7 rfl (j := 2) rfl ?_
  refine at_cS0 C 2 (c_X8_turned X.l X.D X.E X.a1 X.a2 (S.1 9 x1.toNatClampNeg) x2) gX8_reachOf_X8_turned rfl (by decide +kernel) ⟨rfl, rfl⟩ rfl rfl rfl dX8_reachOf_8 ?_
  refine at_iload_n C dX8_reachOf_11 rfl (j := 3) rfl ?_
  refine at_cV1 C 2 (c_X8_canStand X.l X.D X.E X.a1 X.a2 ad S (f_X8_turned (S.1 9 x1.toNatClampNeg) x2) x3 h.1) gX8_reachOf_X8_canStand rfl (by decide +kernel) ⟨rfl, rfl⟩ rfl rfl rfl 0 mW_c0 rfl dX8_reachOf_12 ?_
  replace h := h.2
  refine at_ifB_ne C dX8_reachOf_15 (tgt := 21) (by decide) (fun hc0 => ?_) (fun hc0 => ?_)
  · replace h := h.1 hc0
    refine at_aload_n C dX8_reachOf_21 rfl (j := 0) rfl ?_
    refine at_iload_n C dX8_reachOf_22 rfl (j := 1) rfl ?_
    refine at_iload_n C dX8_reachOf_23 rfl (j := 2) rfl ?_
    refine at_iload_n C dX8_reachOf_24 rfl (j := 3) rfl ?_
    obtain ⟨S1, hF1, h⟩ := h
    refine at_cV1v C 3 hF1 gX8_reachOf_X8_findFar rfl (by decide +kernel) ⟨rfl, rfl⟩ rfl rfl rfl 0 mW_c0 rfl dX8_reachOf_25 ?_
    refine at_iconst C dX8_reachOf_28 (v := 0) rfl ?_
    refine at_istore C dX8_reachOf_29 (by decide) (lv' := [(4, .int 0), (0, .ref (ad 0)), (1, .int x1), (2, .int x2), (3, .int x3)]) rfl ?_
    refine at_iconst C dX8_reachOf_31 (v := 0) rfl ?_
    refine at_istore C dX8_reachOf_32 (by decide) (lv' := [(5, .int 0), (4, .int 0), (0, .ref (ad 0)), (1, .int x1), (2, .int x2), (3, .int x3)]) rfl ?_
    refine at_lv [2, 1, 0] rfl ?_
    exact h
  · replace h := h.2 hc0
    refine at_bipush C dX8_reachOf_18 (v := (-3)) rfl ?_
    exact at_iret C dX8_reachOf_20 h
set_option maxRecDepth 100000 in
theorem r_X8_reachOf_34 {X : Bn} (C : Cx X cX8_reachOf 6 RX8 wsX8_reachOf 5 121) (ad : Nat → Nat) (S : MS) (x4 : Int32) (x5 : Int32) (h : ((64 ≤ x5) → (Ends X (some .int) (some (.int x4)) (mW X.E ad S))) ∧ (¬ 64 ≤ x5 → ((vp_in x5 256) ∧ ((((¬ 0 ≤ S.1 11 x5.toNatClampNeg) → (vp_in (64 + x5) 256) ∧ ((¬ 0 ≤ S.1 11 ((64 + x5).toNatClampNeg)) → (vp_in (128 + x5) 256) ∧ ((¬ 0 ≤ S.1 11 ((128 + x5).toNatClampNeg)) → (vp_in (192 + x5) 256))))) ∧ (At X 6 (mW X.E ad S) 34 [(0, .ref (ad 0)), (4, .int (x4 + (b2i (if 0 ≤ S.1 11 x5.toNatClampNeg then true else (if 0 ≤ S.1 11 ((64 + x5).toNatClampNeg) then true else (if 0 ≤ S.1 11 ((128 + x5).toNatClampNeg) then true else (if S.1 11 ((192 + x5).toNatClampNeg) < 0 then false else true))))))), (5, .int (x5 + 1))] []))))) : At X 6 (mW X.E ad S) 34 [(0, .ref (ad 0)), (4, .int x4), (5, .int x5)] [] := by
  refine at_iload C dX8_reachOf_34 (j := 2) rfl ?_
  refine at_bipush C dX8_reachOf_36 (v := 64) rfl ?_
  refine at_icmp_ge C dX8_reachOf_38 (tgt := 108) (by decide) (fun hc1 => ?_) (fun hc1 => ?_)
  · replace h := h.1 hc1
    refine at_iload C dX8_reachOf_108 (j := 1) rfl ?_
    exact at_iret C dX8_reachOf_110 h
  · replace h := h.2 hc1
    refine at_iload C dX8_reachOf_41 (j := 1) rfl ?_
    refine at_aload_n C dX8_reachOf_43 rfl (j := 0) rfl ?_
    refine at_get C (K := RX8) (T := TX8) (N := 18) (ci := 7) (v := .ref (ad 9)) iw_X8_reachOf_X8 0 mW_c0 rfl 11 (by decide) lk_X8_reachOf_1 rfl dX8_reachOf_44 ?_
    refine at_iload C dX8_reachOf_47 (j := 2) rfl ?_
    refine at_iald C 9 mW_c9 h.1 dX8_reachOf_49 ?_
    replace h := h.2
    have hq := h.1
    replace h := h.2
    have K : At X 6 (mW X.E ad S) 99 [(0, .ref (ad 0)), (5, .int x5)] [.int (b2i (if 0 ≤ S.1 11 x5.toNatClampNeg then true else (if 0 ≤ S.1 11 ((64 + x5).toNatClampNeg) then true else (if 0 ≤ S.1 11 ((128 + x5).toNatClampNeg) then true else (if S.1 11 ((192 + x5).toNatClampNeg) < 0 then false else true))))), .int x4] := by
      refine at_iadd C dX8_reachOf_99 ?_
      refine at_istore C dX8_reachOf_100 (by decide) (lv' := [(4, .int (x4 + (b2i (if 0 ≤ S.1 11 x5.toNatClampNeg then true else (if 0 ≤ S.1 11 ((64 + x5).toNatClampNeg) then true else (if 0 ≤ S.1 11 ((128 + x5).toNatClampNeg) then true else (if S.1 11 ((192 + x5).toNatClampNeg) < 0 then false else true))))))), (0, .ref (ad 0)), (5, .int x5)]) rfl ?_
      refine at_iinc C dX8_reachOf_102 (j := 2) (v := x5 + 1) rfl rfl (by decide) (lv' := [(5, .int (x5 + 1)), (4, .int (x4 + (b2i (if 0 ≤ S.1 11 x5.toNatClampNeg then true else (if 0 ≤ S.1 11 ((64 + x5).toNatClampNeg) then true else (if 0 ≤ S.1 11 ((128 + x5).toNatClampNeg) then true else (if S.1 11 ((192 + x5).toNatClampNeg) < 0 then false else true))))))), (0, .ref (ad 0))]) rfl ?_
      refine at_goto C dX8_reachOf_105 (tgt := 34) (by decide) ?_
      refine at_lv [2, 1, 0] rfl ?_
      exact h
    replace h := hq
    refine at_if_ge C dX8_reachOf_50 (tgt := 94) (by decide) (fun hc2 => ?_) (fun hc2 => ?_)
    · skip
      refine at_iconst C dX8_reachOf_94 (v := 1) rfl ?_
      refine at_goto C dX8_reachOf_95 (tgt := 99) (by decide) ?_
      refine at_lv [0, 2] rfl ?_
      first | (simp only [if_pos hc2] at K; exact K) | exact K
    · replace h := h hc2
      refine at_aload_n C dX8_reachOf_53 rfl (j := 0) rfl ?_
      refine at_get C (K := RX8) (T := TX8) (N := 18) (ci := 7) (v := .ref (ad 9)) iw_X8_reachOf_X8 0 mW_c0 rfl 11 (by decide) lk_X8_reachOf_1 rfl dX8_reachOf_54 ?_
      refine at_bipush C dX8_reachOf_57 (v := 64) rfl ?_
      refine at_iload C dX8_reachOf_59 (j := 2) rfl ?_
      refine at_iadd C dX8_reachOf_61 ?_
      refine at_iald C 9 mW_c9 h.1 dX8_reachOf_62 ?_
      replace h := h.2
      refine at_if_ge C dX8_reachOf_63 (tgt := 94) (by decide) (fun hc3 => ?_) (fun hc3 => ?_)
      · skip
        refine at_iconst C dX8_reachOf_94 (v := 1) rfl ?_
        refine at_goto C dX8_reachOf_95 (tgt := 99) (by decide) ?_
        refine at_lv [0, 2] rfl ?_
        first | (simp only [if_neg hc2, if_pos hc3] at K; exact K) | exact K
      · replace h := h hc3
        refine at_aload_n C dX8_reachOf_66 rfl (j := 0) rfl ?_
        refine at_get C (K := RX8) (T := TX8) (N := 18) (ci := 7) (v := .ref (ad 9)) iw_X8_reachOf_X8 0 mW_c0 rfl 11 (by decide) lk_X8_reachOf_1 rfl dX8_reachOf_67 ?_
        refine at_sipush C dX8_reachOf_70 (v := 128) rfl ?_
        refine at_iload C dX8_reachOf_73 (j := 2) rfl ?_
        refine at_iadd C dX8_reachOf_75 ?_
        refine at_iald C 9 mW_c9 h.1 dX8_reachOf_76 ?_
        replace h := h.2
        refine at_if_ge C dX8_reachOf_77 (tgt := 94) (by decide) (fun hc4 => ?_) (fun hc4 => ?_)
        · skip
          refine at_iconst C dX8_reachOf_94 (v := 1) rfl ?_
          refine at_goto C dX8_reachOf_95 (tgt := 99) (by decide) ?_
          refine at_lv [0, 2] rfl ?_
          first | (simp only [if_neg hc2, if_neg hc3, if_pos hc4] at K; exact K) | exact K
        · replace h := h hc4
          refine at_aload_n C dX8_reachOf_80 rfl (j := 0) rfl ?_
          refine at_get C (K := RX8) (T := TX8) (N := 18) (ci := 7) (v := .ref (ad 9)) iw_X8_reachOf_X8 0 mW_c0 rfl 11 (by decide) lk_X8_reachOf_1 rfl dX8_reachOf_81 ?_
          refine at_sipush C dX8_reachOf_84 (v := 192) rfl ?_
          refine at_iload C dX8_reachOf_87 (j := 2) rfl ?_
          refine at_iadd C dX8_reachOf_89 ?_
          refine at_iald C 9 mW_c9 h dX8_reachOf_90 ?_
          refine at_if_lt C dX8_reachOf_91 (tgt := 98) (by decide) (fun hc5 => ?_) (fun hc5 => ?_)
          · skip
            refine at_iconst C dX8_reachOf_98 (v := 0) rfl ?_
            refine at_lv [0, 2] rfl ?_
            first | (simp only [if_neg hc2, if_neg hc3, if_neg hc4, if_pos hc5] at K; exact K) | exact K
          · skip
            refine at_iconst C dX8_reachOf_94 (v := 1) rfl ?_
            refine at_goto C dX8_reachOf_95 (tgt := 99) (by decide) ?_
            refine at_lv [0, 2] rfl ?_
            first | (simp only [if_neg hc2, if_neg hc3, if_neg hc4, if_neg hc5] at K; exact K) | exact K
/-- at how many cells one comes to stand -/
def rcB (F : Nat → Int32) (c : Nat) : Bool := decide (0 ≤ F c) || (decide (0 ≤ F (64 + c)) || (decide (0 ≤ F (128 + c)) || decide (0 ≤ F (192 + c))))
def rcV (F : Nat → Int32) : Int32 := itF (fun c a => a + b2i (rcB F c)) 0 64 0
def rchR (ok : Nat → Bool) (st : Nat) (r : Int32) : Prop := (ok st = true ∧ ∃ F, farOK ok st F ∧ r = rcV F) ∨ (¬ ok st = true ∧ r = -3)
theorem c_X8_reachOf (ad : Nat → Nat) (S : MS) {s t cell : Nat} (hs : s < 8) (ht : t < 4) (hc : cell < 64) :
    ∃ r S', rchR (okS (S.1 10) (S.1 9 s)) (64 * t + cell) r ∧ keepF S S' ∧ ∀ (l : Launch) (D : va_G) (E : Nat → ClassId) (a1 a2 : Nat), Fn l D E a1 a2 yX8_reachOf wsX8_reachOf 5 121 [.ref (ad 0), .int (nI s), .int (nI t), .int (nI cell)] (mW E ad S) (some (.int r)) (mW E ad S') := by
  have cs : (nI s).toNatClampNeg = s := nI_clamp (by omega)
  have v8 : vp_in (nI s) 8 := vp_in_nI hs (by decide)
  have p1 : p_X8_canStand (nI cell) := ⟨cell, hc, rfl⟩
  by_cases h1 : okS (S.1 10) (S.1 9 s) (64 * t + cell) = true
  · obtain ⟨S', ⟨hf, hk1, hk2⟩, hF⟩ := c_X8_findFar ad S hs ht hc h1
    refine ⟨rcV (S'.1 11), S', Or.inl ⟨h1, S'.1 11, hf, rfl⟩, ⟨hk1, hk2⟩, fun l D E a1 a2 => ?_⟩
    refine Fn.of (cc := cX8_reachOf) (maxL := 6) (ret := (some .int)) (own := RX8) (by decide) rfl rfl (sameM _ _ _ _) (Nat.le_of_ble_eq_true rfl) (fun X h1' h2' h3 h4 h5 C hE => ?_)
    subst h1' h2' h3 h4 h5
    refine r_X8_reachOf_0 C ad S _ _ _ ?_
    rw [cs, can_ok hc]
    refine ⟨v8, p1, fun _ => ⟨S', hF _ _ _ _ _, ?_⟩, fun z => by rw [h1] at z; cases z⟩
    refine for_go (P := fun c a => At X 6 (mW X.E ad S') 34 [(0, .ref (ad 0)), (4, .int a), (5, .int (nI c))] []) (N := 64) (fun c a => a + b2i (rcB (S'.1 11) c)) (fun c a hc h => ?_) 64 0 0 rfl ?_
    · have e : ∀ b : Nat, b < 256 → nI b + nI c = nI (b + c) ∧ (nI (b + c)).toNatClampNeg = b + c := fun b hb => ⟨nI_add b c, nI_clamp (by omega)⟩
      refine r_X8_reachOf_34 C ad S' a (nI c) ⟨fun q => nlt_no (by decide) hc q, fun _ => ⟨vp_in_nI (by omega) (by decide), ?_⟩⟩
      rw [show (64 : Int32) = nI 64 from rfl, show (128 : Int32) = nI 128 from rfl, show (192 : Int32) = nI 192 from rfl, (e 64 (by decide)).1, (e 128 (by decide)).1, (e 192 (by decide)).1, (e 64 (by decide)).2, (e 128 (by decide)).2, (e 192 (by decide)).2, nI_clamp (show c < 2 ^ 31 by omega), nI_1]
      refine ⟨fun _ => ⟨vp_in_nI (by omega) (by decide), fun _ => ⟨vp_in_nI (by omega) (by decide), fun _ => vp_in_nI (by omega) (by decide)⟩⟩, ?_⟩
      have e2 : (if 0 ≤ S'.1 11 c then true else (if 0 ≤ S'.1 11 (64 + c) then true else (if 0 ≤ S'.1 11 (128 + c) then true else (if S'.1 11 (192 + c) < 0 then false else true)))) = rcB (S'.1 11) c := by
        unfold rcB
        by_cases z1 : 0 ≤ S'.1 11 c
        · rw [if_pos z1, decide_eq_true z1]; rfl
        · rw [if_neg z1, decide_eq_false z1, Bool.false_or]
          by_cases z2 : 0 ≤ S'.1 11 (64 + c)
          · rw [if_pos z2, decide_eq_true z2]; rfl
          · rw [if_neg z2, decide_eq_false z2, Bool.false_or]
            by_cases z3 : 0 ≤ S'.1 11 (128 + c)
            · rw [if_pos z3, decide_eq_true z3]; rfl
            · rw [if_neg z3, decide_eq_false z3, Bool.false_or]
              by_cases z4 : S'.1 11 (192 + c) < 0
              · rw [if_pos z4, decide_eq_false (fun y => i32_le.mp y z4)]
              · rw [if_neg z4, decide_eq_true (i32_le.mpr z4)]
      rw [e2]
      exact h
    · exact r_X8_reachOf_34 C ad S' _ (nI 64) ⟨fun _ => hE, fun q => nle_no q⟩
  · refine ⟨-3, S, Or.inr ⟨h1, rfl⟩, keepF.rf S, fun l D E a1 a2 => ?_⟩
    refine Fn.of (cc := cX8_reachOf) (maxL := 6) (ret := (some .int)) (own := RX8) (by decide) rfl rfl (sameM _ _ _ _) (Nat.le_of_ble_eq_true rfl) (fun X h1' h2' h3 h4 h5 C hE => ?_)
    subst h1' h2' h3 h4 h5
    refine r_X8_reachOf_0 C ad S _ _ _ ?_
    rw [cs, can_ok hc]
    exact ⟨v8, p1, fun z => absurd z h1, fun _ => hE⟩
