set_option maxRecDepth 20000 in
theorem ggX8_made_X8_in : GoodIn wsX8_made wsX8_in := goodIn_r _ [6] (by decide +kernel) (by decide +kernel)
set_option maxRecDepth 20000 in
theorem gX8_made_X8_in : GoodIn wsX8_made (va_wsS RX8 53 yX8_in wsX8_in) := goodIn_app (goodIn_of _ (by decide +kernel)) ggX8_made_X8_in
set_option maxRecDepth 20000 in
theorem ggX8_made_X8_turnedOnce : GoodIn wsX8_made wsX8_turnedOnce := goodIn_r _ [9, 10, 11, 5, 12] (by decide +kernel) (by decide +kernel)
set_option maxRecDepth 20000 in
theorem gX8_made_X8_turnedOnce : GoodIn wsX8_made (va_wsS RX8 127 yX8_turnedOnce wsX8_turnedOnce) := goodIn_app (goodIn_of _ (by decide +kernel)) ggX8_made_X8_turnedOnce
set_option maxRecDepth 20000 in
theorem ggX8_made_X8_mirrored : GoodIn wsX8_made wsX8_mirrored := goodIn_r _ [15, 10, 11, 5, 12] (by decide +kernel) (by decide +kernel)
set_option maxRecDepth 20000 in
theorem gX8_made_X8_mirrored : GoodIn wsX8_made (va_wsS RX8 149 yX8_mirrored wsX8_mirrored) := goodIn_app (goodIn_of _ (by decide +kernel)) ggX8_made_X8_mirrored
set_option maxRecDepth 20000 in
theorem ggX8_made_X8_movedUp : GoodIn wsX8_made wsX8_movedUp := goodIn_r _ [18, 19, 20] (by decide +kernel) (by decide +kernel)
set_option maxRecDepth 20000 in
theorem gX8_made_X8_movedUp : GoodIn wsX8_made (va_wsS RX8 135 yX8_movedUp wsX8_movedUp) := goodIn_app (goodIn_of _ (by decide +kernel)) ggX8_made_X8_movedUp
theorem dX8_made_0 : decode cX8_made 0 = .ok (.iload_n 1, 1) := by decide +kernel
theorem dX8_made_1 : decode cX8_made 1 = .ok (.i2l, 1) := by decide +kernel
theorem dX8_made_2 : decode cX8_made 2 = .ok (.lconst 1, 1) := by decide +kernel
theorem dX8_made_3 : decode cX8_made 3 = .ok (.ldc2_w 147, 3) := by decide +kernel
theorem dX8_made_6 : decode cX8_made 6 = .ok (.invokestatic 53, 3) := by decide +kernel
theorem dX8_made_9 : decode cX8_made 9 = .ok (.ifCond .eq 15, 3) := by decide +kernel
theorem dX8_made_12 : decode cX8_made 12 = .ok (.iload_n 2, 1) := by decide +kernel
theorem dX8_made_13 : decode cX8_made 13 = .ok (.i2l, 1) := by decide +kernel
theorem dX8_made_14 : decode cX8_made 14 = .ok (.lconst 0, 1) := by decide +kernel
theorem dX8_made_15 : decode cX8_made 15 = .ok (.ldc2_w 67, 3) := by decide +kernel
theorem dX8_made_18 : decode cX8_made 18 = .ok (.invokestatic 53, 3) := by decide +kernel
theorem dX8_made_21 : decode cX8_made 21 = .ok (.ifCond .ne 6, 3) := by decide +kernel
theorem dX8_made_24 : decode cX8_made 24 = .ok (.bipush (-2), 2) := by decide +kernel
theorem dX8_made_26 : decode cX8_made 26 = .ok (.ireturn, 1) := by decide +kernel
theorem dX8_made_27 : decode cX8_made 27 = .ok (.iload_n 2, 1) := by decide +kernel
theorem dX8_made_28 : decode cX8_made 28 = .ok (.ifCond .ne 10, 3) := by decide +kernel
theorem dX8_made_31 : decode cX8_made 31 = .ok (.iload_n 1, 1) := by decide +kernel
theorem dX8_made_32 : decode cX8_made 32 = .ok (.invokestatic 127, 3) := by decide +kernel
theorem dX8_made_35 : decode cX8_made 35 = .ok (.goto 19, 3) := by decide +kernel
theorem dX8_made_38 : decode cX8_made 38 = .ok (.iload_n 2, 1) := by decide +kernel
theorem dX8_made_39 : decode cX8_made 39 = .ok (.iconst 1, 1) := by decide +kernel
theorem dX8_made_40 : decode cX8_made 40 = .ok (.if_icmp .ne 10, 3) := by decide +kernel
theorem dX8_made_43 : decode cX8_made 43 = .ok (.iload_n 1, 1) := by decide +kernel
theorem dX8_made_44 : decode cX8_made 44 = .ok (.invokestatic 149, 3) := by decide +kernel
theorem dX8_made_47 : decode cX8_made 47 = .ok (.goto 7, 3) := by decide +kernel
theorem dX8_made_50 : decode cX8_made 50 = .ok (.iload_n 1, 1) := by decide +kernel
theorem dX8_made_51 : decode cX8_made 51 = .ok (.invokestatic 135, 3) := by decide +kernel
theorem dX8_made_54 : decode cX8_made 54 = .ok (.ireturn, 1) := by decide +kernel
theorem lk_X8_made_0 : Cond.constantLong RX8 147 65535 ∈ wsX8_made := by decide +kernel
theorem lk_X8_made_1 : Cond.constantLong RX8 67 2 ∈ wsX8_made := by decide +kernel
set_option maxRecDepth 100000 in
theorem r_X8_made_0 {X : Bn} (C : Cx X cX8_made 3 RX8 wsX8_made 2 44) (ad : Nat → Nat) (S : MS) (x1 : Int32) (x2 : Int32) (h : (((f_X8_in x1.toInt64 (1 : Int64) (65535 : Int64)) = true) → ((((f_X8_in x2.toInt64 (0 : Int64) (2 : Int64)) = true) → ((((¬ x2 = 0) → ((¬ x2 = 1) → (p_X8_movedUp x1)))) ∧ (Ends X (some .int) (some (.int (if x2 = 0 then f_X8_turnedOnce x1 else (if x2 = 1 then f_X8_mirrored x1 else f_X8_movedUp x1)))) (mW X.E ad S)))) ∧ ((f_X8_in x2.toInt64 (0 : Int64) (2 : Int64)) = false → (Ends X (some .int) (some (.int (-2))) (mW X.E ad S))))) ∧ ((f_X8_in x1.toInt64 (1 : Int64) (65535 : Int64)) = false → (Ends X (some .int) (some (.int (-2))) (mW X.E ad S)))) : At X 3 (mW X.E ad S) 0 [(0, .ref (ad 0)), (1, .int x1), (2, .int x2)] [] := by
  refine at_iload_n C dX8_made_0 rfl (j := 1) rfl ?_
  refine at_i2l C dX8_made_1 ?_
  refine at_lconst C dX8_made_2 (v := 1) rfl ?_
  refine at_ldc2 C lk_X8_made_0 dX8_made_3 ?_
  refine at_cS0 C 3 (c_X8_in X.l X.D X.E X.a1 X.a2 x1.toInt64 (1 : Int64) (65535 : Int64)) gX8_made_X8_in rfl (by decide +kernel) ⟨rfl, rfl⟩ rfl rfl rfl dX8_made_6 ?_
  refine at_ifB_eq C dX8_made_9 (tgt := 24) (by decide) (fun hc2 => ?_) (fun hc2 => ?_)
  · replace h := h.2 hc2
    refine at_bipush C dX8_made_24 (v := (-2)) rfl ?_
    exact at_iret C dX8_made_26 h
  · replace h := h.1 hc2
    refine at_iload_n C dX8_made_12 rfl (j := 2) rfl ?_
    refine at_i2l C dX8_made_13 ?_
    refine at_lconst C dX8_made_14 (v := 0) rfl ?_
    refine at_ldc2 C lk_X8_made_1 dX8_made_15 ?_
    refine at_cS0 C 3 (c_X8_in X.l X.D X.E X.a1 X.a2 x2.toInt64 (0 : Int64) (2 : Int64)) gX8_made_X8_in rfl (by decide +kernel) ⟨rfl, rfl⟩ rfl rfl rfl dX8_made_18 ?_
    refine at_ifB_ne C dX8_made_21 (tgt := 27) (by decide) (fun hc3 => ?_) (fun hc3 => ?_)
    · replace h := h.1 hc3
      refine at_iload_n C dX8_made_27 rfl (j := 2) rfl ?_
      have hq := h.1
      replace h := h.2
      have K : At X 3 (mW X.E ad S) 54 [] [.int (if x2 = 0 then f_X8_turnedOnce x1 else (if x2 = 1 then f_X8_mirrored x1 else f_X8_movedUp x1))] := by
        exact at_iret C dX8_made_54 h
      replace h := hq
      refine at_if_ne C dX8_made_28 (tgt := 38) (by decide) (fun hc4 => ?_) (fun hc4 => ?_)
      · replace h := h hc4
        refine at_iload_n C dX8_made_38 rfl (j := 2) rfl ?_
        refine at_iconst C dX8_made_39 (v := 1) rfl ?_
        refine at_icmp_ne C dX8_made_40 (tgt := 50) (by decide) (fun hc5 => ?_) (fun hc5 => ?_)
        · replace h := h hc5
          refine at_iload_n C dX8_made_50 rfl (j := 1) rfl ?_
          refine at_cS0 C 1 (c_X8_movedUp X.l X.D X.E X.a1 X.a2 x1 h) gX8_made_X8_movedUp rfl (by decide +kernel) ⟨rfl, rfl⟩ rfl rfl rfl dX8_made_51 ?_
          refine at_lv [] rfl ?_
          first | (simp only [if_neg hc4, if_neg hc5] at K; exact K) | exact K
        · skip
          refine at_iload_n C dX8_made_43 rfl (j := 1) rfl ?_
          refine at_cS0 C 1 (c_X8_mirrored X.l X.D X.E X.a1 X.a2 x1) gX8_made_X8_mirrored rfl (by decide +kernel) ⟨rfl, rfl⟩ rfl rfl rfl dX8_made_44 ?_
          refine at_goto C dX8_made_47 (tgt := 54) (by decide) ?_
          refine at_lv [] rfl ?_
          first | (simp only [if_neg hc4, if_pos hc5] at K; exact K) | exact K
      · skip
        refine at_iload_n C dX8_made_31 rfl (j := 1) rfl ?_
        refine at_cS0 C 1 (c_X8_turnedOnce X.l X.D X.E X.a1 X.a2 x1) gX8_made_X8_turnedOnce rfl (by decide +kernel) ⟨rfl, rfl⟩ rfl rfl rfl dX8_made_32 ?_
        refine at_goto C dX8_made_35 (tgt := 54) (by decide) ?_
        refine at_lv [] rfl ?_
        first | (simp only [if_pos hc4] at K; exact K) | exact K
    · replace h := h.2 hc3
      refine at_bipush C dX8_made_24 (v := (-2)) rfl ?_
      exact at_iret C dX8_made_26 h
def f_X8_made (S : MS) (x1 : Int32) (x2 : Int32) : Int32 := if (f_X8_in x1.toInt64 (1 : Int64) (65535 : Int64)) then (if (f_X8_in x2.toInt64 (0 : Int64) (2 : Int64)) then (if x2 = 0 then f_X8_turnedOnce x1 else (if x2 = 1 then f_X8_mirrored x1 else f_X8_movedUp x1)) else (-2)) else (-2)
def p_X8_made (S : MS) (x1 : Int32) (x2 : Int32) : Prop := (((f_X8_in x1.toInt64 (1 : Int64) (65535 : Int64)) = true) → (((f_X8_in x2.toInt64 (0 : Int64) (2 : Int64)) = true) → (((¬ x2 = 0) → ((¬ x2 = 1) → (p_X8_movedUp x1))))))
set_option maxRecDepth 100000 in
theorem c_X8_made (l : Launch) (D : va_G) (E : Nat → ClassId) (a1 a2 : Nat) (ad : Nat → Nat) (S : MS) (x1 : Int32) (x2 : Int32) (hp : p_X8_made S x1 x2) : Fn l D E a1 a2 yX8_made wsX8_made 2 44 [.ref (ad 0), .int x1, .int x2] (mW E ad S) (some (.int (f_X8_made S x1 x2))) (mW E ad S) := by
  refine Fn.of (cc := cX8_made) (maxL := 3) (ret := (some .int)) (own := RX8) (by decide) rfl rfl rfl (Nat.le_of_ble_eq_true rfl) (fun X h1 h2 h3 h4 h5 C hE => ?_)
  subst h1 h2 h3 h4 h5
  refine r_X8_made_0 C ad S x1 x2 ?_
  refine ⟨fun hc0 => ?_, fun hc0 => ?_⟩
  · refine ⟨fun hc1 => ?_, fun hc1 => ?_⟩
    · refine ⟨((hp hc0) hc1), ?_⟩
      simp only [f_X8_made, if_pos hc0, if_pos hc1] at hE
      exact hE
    · simp only [f_X8_made, if_pos hc0, if_neg (show ¬ (f_X8_in x2.toInt64 (0 : Int64) (2 : Int64)) = true by rw [hc1]; decide)] at hE
      exact hE
  · simp only [f_X8_made, if_neg (show ¬ (f_X8_in x1.toInt64 (1 : Int64) (65535 : Int64)) = true by rw [hc0]; decide)] at hE
    exact hE
set_option maxRecDepth 20000 in
theorem ggX8_formOf_X8_isWhole : GoodIn wsX8_formOf wsX8_isWhole := goodIn_r _ [5, 6, 7, 4, 8, 9, 10, 11, 12, 13, 14, 15, 16, 17, 18] (by decide +kernel) (by decide +kernel)
set_option maxRecDepth 20000 in
theorem gX8_formOf_X8_isWhole : GoodIn wsX8_formOf (va_wsS RX8 163 yX8_isWhole wsX8_isWhole) := goodIn_app (goodIn_of _ (by decide +kernel)) ggX8_formOf_X8_isWhole
set_option maxRecDepth 20000 in
theorem ggX8_formOf_X8_outline : GoodIn wsX8_formOf wsX8_outline := goodIn_r _ [21, 6, 7, 4, 8, 9, 10, 11, 12, 13, 14, 15, 16, 17, 18] (by decide +kernel) (by decide +kernel)
set_option maxRecDepth 20000 in
theorem gX8_formOf_X8_outline : GoodIn wsX8_formOf (va_wsS RX8 166 yX8_outline wsX8_outline) := goodIn_app (goodIn_of _ (by decide +kernel)) ggX8_formOf_X8_outline
set_option maxRecDepth 20000 in
theorem ggX8_formOf_X8_ones : GoodIn wsX8_formOf wsX8_ones := goodIn_r _ [24] (by decide +kernel) (by decide +kernel)
set_option maxRecDepth 20000 in
theorem gX8_formOf_X8_ones : GoodIn wsX8_formOf (va_wsS RX8 169 yX8_ones wsX8_ones) := goodIn_app (goodIn_of _ (by decide +kernel)) ggX8_formOf_X8_ones
theorem dX8_formOf_0 : decode cX8_formOf 0 = .ok (.iload_n 2, 1) := by decide +kernel
theorem dX8_formOf_1 : decode cX8_formOf 1 = .ok (.ifCond .ne 23, 3) := by decide +kernel
theorem dX8_formOf_4 : decode cX8_formOf 4 = .ok (.aload_n 0, 1) := by decide +kernel
theorem dX8_formOf_5 : decode cX8_formOf 5 = .ok (.getfield 28, 3) := by decide +kernel
theorem dX8_formOf_8 : decode cX8_formOf 8 = .ok (.iload_n 1, 1) := by decide +kernel
theorem dX8_formOf_9 : decode cX8_formOf 9 = .ok (.iaload, 1) := by decide +kernel
theorem dX8_formOf_10 : decode cX8_formOf 10 = .ok (.invokestatic 163, 3) := by decide +kernel
theorem dX8_formOf_13 : decode cX8_formOf 13 = .ok (.ifCond .eq 7, 3) := by decide +kernel
theorem dX8_formOf_16 : decode cX8_formOf 16 = .ok (.iconst 1, 1) := by decide +kernel
theorem dX8_formOf_17 : decode cX8_formOf 17 = .ok (.goto 33, 3) := by decide +kernel
theorem dX8_formOf_20 : decode cX8_formOf 20 = .ok (.iconst 0, 1) := by decide +kernel
theorem dX8_formOf_21 : decode cX8_formOf 21 = .ok (.goto 29, 3) := by decide +kernel
theorem dX8_formOf_24 : decode cX8_formOf 24 = .ok (.iload_n 2, 1) := by decide +kernel
theorem dX8_formOf_25 : decode cX8_formOf 25 = .ok (.iconst 1, 1) := by decide +kernel
theorem dX8_formOf_26 : decode cX8_formOf 26 = .ok (.if_icmp .ne 15, 3) := by decide +kernel
theorem dX8_formOf_29 : decode cX8_formOf 29 = .ok (.aload_n 0, 1) := by decide +kernel
theorem dX8_formOf_30 : decode cX8_formOf 30 = .ok (.getfield 28, 3) := by decide +kernel
theorem dX8_formOf_33 : decode cX8_formOf 33 = .ok (.iload_n 1, 1) := by decide +kernel
theorem dX8_formOf_34 : decode cX8_formOf 34 = .ok (.iaload, 1) := by decide +kernel
theorem dX8_formOf_35 : decode cX8_formOf 35 = .ok (.invokestatic 166, 3) := by decide +kernel
theorem dX8_formOf_38 : decode cX8_formOf 38 = .ok (.goto 12, 3) := by decide +kernel
theorem dX8_formOf_41 : decode cX8_formOf 41 = .ok (.aload_n 0, 1) := by decide +kernel
theorem dX8_formOf_42 : decode cX8_formOf 42 = .ok (.getfield 28, 3) := by decide +kernel
theorem dX8_formOf_45 : decode cX8_formOf 45 = .ok (.iload_n 1, 1) := by decide +kernel
theorem dX8_formOf_46 : decode cX8_formOf 46 = .ok (.iaload, 1) := by decide +kernel
theorem dX8_formOf_47 : decode cX8_formOf 47 = .ok (.invokestatic 169, 3) := by decide +kernel
theorem dX8_formOf_50 : decode cX8_formOf 50 = .ok (.ireturn, 1) := by decide +kernel
theorem iw_X8_formOf_X8 : ∀ w ∈ u_ws RX8 TX8 18, w ∈ wsX8_formOf := by decide +kernel
theorem lk_X8_formOf_0 : Cond.fieldLink RX8 28 (TX8 9).1 (TX8 9).2.1 (TX8 9).2.2.1 ∈ wsX8_formOf := by decide +kernel
set_option maxRecDepth 100000 in
theorem r_X8_formOf_0 {X : Bn} (C : Cx X cX8_formOf 3 RX8 wsX8_formOf 3 72) (ad : Nat → Nat) (S : MS) (x1 : Int32) (x2 : Int32) (h : ((((x2 = 0) → (vp_in x1 8) ∧ (p_X8_movedUp (S.1 9 x1.toNatClampNeg))) ∧ ((¬ x2 = 0) → (((x2 = 1) → (vp_in x1 8)) ∧ ((¬ x2 = 1) → (vp_in x1 8)))))) ∧ (Ends X (some .int) (some (.int (if x2 = 0 then (if (f_X8_isWhole (S.1 9 x1.toNatClampNeg)) then 1 else 0) else (if x2 = 1 then f_X8_outline (S.1 9 x1.toNatClampNeg) else f_X8_ones (S.1 9 x1.toNatClampNeg))))) (mW X.E ad S))) : At X 3 (mW X.E ad S) 0 [(0, .ref (ad 0)), (1, .int x1), (2, .int x2)] [] := by
  refine at_iload_n C dX8_formOf_0 rfl (j := 2) rfl ?_
  have hq := h.1
  replace h := h.2
  have K : At X 3 (mW X.E ad S) 50 [] [.int (if x2 = 0 then (if (f_X8_isWhole (S.1 9 x1.toNatClampNeg)) then 1 else 0) else (if x2 = 1 then f_X8_outline (S.1 9 x1.toNatClampNeg) else f_X8_ones (S.1 9 x1.toNatClampNeg)))] := by
    exact at_iret C dX8_formOf_50 h
  replace h := hq
  refine at_if_ne C dX8_formOf_1 (tgt := 24) (by decide) (fun hc0 => ?_) (fun hc0 => ?_)
  · replace h := h.2 hc0
    refine at_iload_n C dX8_formOf_24 rfl (j := 2) rfl ?_
    refine at_iconst C dX8_formOf_25 (v := 1) rfl ?_
    refine at_icmp_ne C dX8_formOf_26 (tgt := 41) (by decide) (fun hc1 => ?_) (fun hc1 => ?_)
    · replace h := h.2 hc1
      refine at_aload_n C dX8_formOf_41 rfl (j := 0) rfl ?_
      refine at_get C (K := RX8) (T := TX8) (N := 18) (ci := 7) (v := .ref (ad 7)) iw_X8_formOf_X8 0 mW_c0 rfl 9 (by decide) lk_X8_formOf_0 rfl dX8_formOf_42 ?_
      refine at_iload_n C dX8_formOf_45 rfl (j := 1) rfl ?_
      refine at_iald C 7 mW_c7 h dX8_formOf_46 ?_
      refine at_cS0 C 1 (c_X8_ones X.l X.D X.E X.a1 X.a2 (S.1 9 x1.toNatClampNeg)) gX8_formOf_X8_ones rfl (by decide +kernel) ⟨rfl, rfl⟩ rfl rfl rfl dX8_formOf_47 ?_
      refine at_lv [] rfl ?_
      first | (simp only [if_neg hc0, if_neg hc1] at K; exact K) | exact K
    · replace h := h.1 hc1
      refine at_aload_n C dX8_formOf_29 rfl (j := 0) rfl ?_
      refine at_get C (K := RX8) (T := TX8) (N := 18) (ci := 7) (v := .ref (ad 7)) iw_X8_formOf_X8 0 mW_c0 rfl 9 (by decide) lk_X8_formOf_0 rfl dX8_formOf_30 ?_
      refine at_iload_n C dX8_formOf_33 rfl (j := 1) rfl ?_
      refine at_iald C 7 mW_c7 h dX8_formOf_34 ?_
      refine at_cS0 C 1 (c_X8_outline X.l X.D X.E X.a1 X.a2 (S.1 9 x1.toNatClampNeg)) gX8_formOf_X8_outline rfl (by decide +kernel) ⟨rfl, rfl⟩ rfl rfl rfl dX8_formOf_35 ?_
      refine at_goto C dX8_formOf_38 (tgt := 50) (by decide) ?_
      refine at_lv [] rfl ?_
      first | (simp only [if_neg hc0, if_pos hc1] at K; exact K) | exact K
  · replace h := h.1 hc0
    refine at_aload_n C dX8_formOf_4 rfl (j := 0) rfl ?_
    refine at_get C (K := RX8) (T := TX8) (N := 18) (ci := 7) (v := .ref (ad 7)) iw_X8_formOf_X8 0 mW_c0 rfl 9 (by decide) lk_X8_formOf_0 rfl dX8_formOf_5 ?_
    refine at_iload_n C dX8_formOf_8 rfl (j := 1) rfl ?_
    refine at_iald C 7 mW_c7 h.1 dX8_formOf_9 ?_
    replace h := h.2
    refine at_cS0 C 1 (c_X8_isWhole X.l X.D X.E X.a1 X.a2 (S.1 9 x1.toNatClampNeg) h) gX8_formOf_X8_isWhole rfl (by decide +kernel) ⟨rfl, rfl⟩ rfl rfl rfl dX8_formOf_10 ?_
    refine at_ifB_eq C dX8_formOf_13 (tgt := 20) (by decide) (fun hc2 => ?_) (fun hc2 => ?_)
    · skip
      refine at_iconst C dX8_formOf_20 (v := 0) rfl ?_
      refine at_goto C dX8_formOf_21 (tgt := 50) (by decide) ?_
      refine at_lv [] rfl ?_
      first | (simp only [if_pos hc0, if_neg (show ¬ (f_X8_isWhole (S.1 9 x1.toNatClampNeg)) = true by rw [hc2]; decide)] at K; exact K) | exact K
    · skip
      refine at_iconst C dX8_formOf_16 (v := 1) rfl ?_
      refine at_goto C dX8_formOf_17 (tgt := 50) (by decide) ?_
      refine at_lv [] rfl ?_
      first | (simp only [if_pos hc0, if_pos hc2] at K; exact K) | exact K
def f_X8_formOf (S : MS) (x1 : Int32) (x2 : Int32) : Int32 := (if x2 = 0 then (if (f_X8_isWhole (S.1 9 x1.toNatClampNeg)) then 1 else 0) else (if x2 = 1 then f_X8_outline (S.1 9 x1.toNatClampNeg) else f_X8_ones (S.1 9 x1.toNatClampNeg)))
def p_X8_formOf (S : MS) (x1 : Int32) (x2 : Int32) : Prop := ((((x2 = 0) → (vp_in x1 8) ∧ (p_X8_movedUp (S.1 9 x1.toNatClampNeg))) ∧ ((¬ x2 = 0) → (((x2 = 1) → (vp_in x1 8)) ∧ ((¬ x2 = 1) → (vp_in x1 8))))))
set_option maxRecDepth 100000 in
theorem c_X8_formOf (l : Launch) (D : va_G) (E : Nat → ClassId) (a1 a2 : Nat) (ad : Nat → Nat) (S : MS) (x1 : Int32) (x2 : Int32) (hp : p_X8_formOf S x1 x2) : Fn l D E a1 a2 yX8_formOf wsX8_formOf 3 72 [.ref (ad 0), .int x1, .int x2] (mW E ad S) (some (.int (f_X8_formOf S x1 x2))) (mW E ad S) := by
  refine Fn.of (cc := cX8_formOf) (maxL := 3) (ret := (some .int)) (own := RX8) (by decide) rfl rfl rfl (Nat.le_of_ble_eq_true rfl) (fun X h1 h2 h3 h4 h5 C hE => ?_)
  subst h1 h2 h3 h4 h5
  refine r_X8_formOf_0 C ad S x1 x2 ?_
  refine ⟨hp, ?_⟩
  simp only [f_X8_formOf] at hE
  exact hE
set_option maxRecDepth 20000 in
theorem ggX8_kinOf_X8_mirrored : GoodIn wsX8_kinOf wsX8_mirrored := goodIn_r _ [6, 7, 8, 5, 9] (by decide +kernel) (by decide +kernel)
set_option maxRecDepth 20000 in
theorem gX8_kinOf_X8_mirrored : GoodIn wsX8_kinOf (va_wsS RX8 149 yX8_mirrored wsX8_mirrored) := goodIn_app (goodIn_of _ (by decide +kernel)) ggX8_kinOf_X8_mirrored
set_option maxRecDepth 20000 in
theorem ggX8_kinOf_X8_isOne : GoodIn wsX8_kinOf wsX8_isOne := goodIn_r _ [12, 13, 14, 5, 15, 16, 17, 18, 7, 8, 9, 19, 20, 21, 22, 23] (by decide +kernel) (by decide +kernel)
set_option maxRecDepth 20000 in
theorem gX8_kinOf_X8_isOne : GoodIn wsX8_kinOf (va_wsS RX8 175 yX8_isOne wsX8_isOne) := goodIn_app (goodIn_of _ (by decide +kernel)) ggX8_kinOf_X8_isOne
theorem dX8_kinOf_0 : decode cX8_kinOf 0 = .ok (.iload_n 2, 1) := by decide +kernel
theorem dX8_kinOf_1 : decode cX8_kinOf 1 = .ok (.ifCond .ne 12, 3) := by decide +kernel
theorem dX8_kinOf_4 : decode cX8_kinOf 4 = .ok (.aload_n 0, 1) := by decide +kernel
theorem dX8_kinOf_5 : decode cX8_kinOf 5 = .ok (.getfield 28, 3) := by decide +kernel
theorem dX8_kinOf_8 : decode cX8_kinOf 8 = .ok (.iload_n 1, 1) := by decide +kernel
theorem dX8_kinOf_9 : decode cX8_kinOf 9 = .ok (.iaload, 1) := by decide +kernel
theorem dX8_kinOf_10 : decode cX8_kinOf 10 = .ok (.goto 12, 3) := by decide +kernel
theorem dX8_kinOf_13 : decode cX8_kinOf 13 = .ok (.aload_n 0, 1) := by decide +kernel
theorem dX8_kinOf_14 : decode cX8_kinOf 14 = .ok (.getfield 28, 3) := by decide +kernel
theorem dX8_kinOf_17 : decode cX8_kinOf 17 = .ok (.iload_n 1, 1) := by decide +kernel
theorem dX8_kinOf_18 : decode cX8_kinOf 18 = .ok (.iaload, 1) := by decide +kernel
theorem dX8_kinOf_19 : decode cX8_kinOf 19 = .ok (.invokestatic 149, 3) := by decide +kernel
theorem dX8_kinOf_22 : decode cX8_kinOf 22 = .ok (.istore_n 3, 1) := by decide +kernel
theorem dX8_kinOf_23 : decode cX8_kinOf 23 = .ok (.iconst 0, 1) := by decide +kernel
theorem dX8_kinOf_24 : decode cX8_kinOf 24 = .ok (.istore 4, 2) := by decide +kernel
theorem dX8_kinOf_26 : decode cX8_kinOf 26 = .ok (.iconst 0, 1) := by decide +kernel
theorem dX8_kinOf_27 : decode cX8_kinOf 27 = .ok (.istore 5, 2) := by decide +kernel
theorem dX8_kinOf_29 : decode cX8_kinOf 29 = .ok (.iload 5, 2) := by decide +kernel
theorem dX8_kinOf_31 : decode cX8_kinOf 31 = .ok (.aload_n 0, 1) := by decide +kernel
theorem dX8_kinOf_32 : decode cX8_kinOf 32 = .ok (.getfield 90, 3) := by decide +kernel
theorem dX8_kinOf_35 : decode cX8_kinOf 35 = .ok (.if_icmp .ge 36, 3) := by decide +kernel
theorem dX8_kinOf_38 : decode cX8_kinOf 38 = .ok (.iload 4, 2) := by decide +kernel
theorem dX8_kinOf_40 : decode cX8_kinOf 40 = .ok (.iload_n 3, 1) := by decide +kernel
theorem dX8_kinOf_41 : decode cX8_kinOf 41 = .ok (.aload_n 0, 1) := by decide +kernel
theorem dX8_kinOf_42 : decode cX8_kinOf 42 = .ok (.getfield 28, 3) := by decide +kernel
theorem dX8_kinOf_45 : decode cX8_kinOf 45 = .ok (.iload 5, 2) := by decide +kernel
theorem dX8_kinOf_47 : decode cX8_kinOf 47 = .ok (.iaload, 1) := by decide +kernel
theorem dX8_kinOf_48 : decode cX8_kinOf 48 = .ok (.invokestatic 175, 3) := by decide +kernel
theorem dX8_kinOf_51 : decode cX8_kinOf 51 = .ok (.ifCond .eq 10, 3) := by decide +kernel
theorem dX8_kinOf_54 : decode cX8_kinOf 54 = .ok (.iconst 1, 1) := by decide +kernel
theorem dX8_kinOf_55 : decode cX8_kinOf 55 = .ok (.iload 5, 2) := by decide +kernel
theorem dX8_kinOf_57 : decode cX8_kinOf 57 = .ok (.ishl, 1) := by decide +kernel
theorem dX8_kinOf_58 : decode cX8_kinOf 58 = .ok (.goto 4, 3) := by decide +kernel
theorem dX8_kinOf_61 : decode cX8_kinOf 61 = .ok (.iconst 0, 1) := by decide +kernel
theorem dX8_kinOf_62 : decode cX8_kinOf 62 = .ok (.ior, 1) := by decide +kernel
theorem dX8_kinOf_63 : decode cX8_kinOf 63 = .ok (.istore 4, 2) := by decide +kernel
theorem dX8_kinOf_65 : decode cX8_kinOf 65 = .ok (.iinc 5 1, 3) := by decide +kernel
theorem dX8_kinOf_68 : decode cX8_kinOf 68 = .ok (.goto (-39), 3) := by decide +kernel
theorem dX8_kinOf_71 : decode cX8_kinOf 71 = .ok (.iload 4, 2) := by decide +kernel
theorem dX8_kinOf_73 : decode cX8_kinOf 73 = .ok (.ireturn, 1) := by decide +kernel
theorem iw_X8_kinOf_X8 : ∀ w ∈ u_ws RX8 TX8 18, w ∈ wsX8_kinOf := by decide +kernel
theorem lk_X8_kinOf_0 : Cond.fieldLink RX8 28 (TX8 9).1 (TX8 9).2.1 (TX8 9).2.2.1 ∈ wsX8_kinOf := by decide +kernel
theorem lk_X8_kinOf_1 : Cond.fieldLink RX8 90 (TX8 8).1 (TX8 8).2.1 (TX8 8).2.2.1 ∈ wsX8_kinOf := by decide +kernel
set_option maxRecDepth 100000 in
theorem r_X8_kinOf_0 {X : Bn} (C : Cx X cX8_kinOf 6 RX8 wsX8_kinOf 4 90) (ad : Nat → Nat) (S : MS) (x1 : Int32) (x2 : Int32) (h : ((((x2 = 0) → (vp_in x1 8)) ∧ ((¬ x2 = 0) → (vp_in x1 8)))) ∧ (At X 6 (mW X.E ad S) 29 [(0, .ref (ad 0)), (3, .int (if x2 = 0 then S.1 9 x1.toNatClampNeg else f_X8_mirrored (S.1 9 x1.toNatClampNeg))), (4, .int 0), (5, .int 0)] [])) : At X 6 (mW X.E ad S) 0 [(0, .ref (ad 0)), (1, .int x1), (2, .int x2)] [] := by
  refine at_iload_n C dX8_kinOf_0 rfl (j := 2) rfl ?_
  have hq := h.1
  replace h := h.2
  have K : At X 6 (mW X.E ad S) 22 [(0, .ref (ad 0))] [.int (if x2 = 0 then S.1 9 x1.toNatClampNeg else f_X8_mirrored (S.1 9 x1.toNatClampNeg))] := by
    refine at_istore_n C dX8_kinOf_22 rfl (by decide) (lv' := [(3, .int (if x2 = 0 then S.1 9 x1.toNatClampNeg else f_X8_mirrored (S.1 9 x1.toNatClampNeg))), (0, .ref (ad 0))]) rfl ?_
    refine at_iconst C dX8_kinOf_23 (v := 0) rfl ?_
    refine at_istore C dX8_kinOf_24 (by decide) (lv' := [(4, .int 0), (3, .int (if x2 = 0 then S.1 9 x1.toNatClampNeg else f_X8_mirrored (S.1 9 x1.toNatClampNeg))), (0, .ref (ad 0))]) rfl ?_
    refine at_iconst C dX8_kinOf_26 (v := 0) rfl ?_
    refine at_istore C dX8_kinOf_27 (by decide) (lv' := [(5, .int 0), (4, .int 0), (3, .int (if x2 = 0 then S.1 9 x1.toNatClampNeg else f_X8_mirrored (S.1 9 x1.toNatClampNeg))), (0, .ref (ad 0))]) rfl ?_
    refine at_lv [3, 2, 1, 0] rfl ?_
    exact h
  replace h := hq
  refine at_if_ne C dX8_kinOf_1 (tgt := 13) (by decide) (fun hc0 => ?_) (fun hc0 => ?_)
  · replace h := h.2 hc0
    refine at_aload_n C dX8_kinOf_13 rfl (j := 0) rfl ?_
    refine at_get C (K := RX8) (T := TX8) (N := 18) (ci := 7) (v := .ref (ad 7)) iw_X8_kinOf_X8 0 mW_c0 rfl 9 (by decide) lk_X8_kinOf_0 rfl dX8_kinOf_14 ?_
    refine at_iload_n C dX8_kinOf_17 rfl (j := 1) rfl ?_
    refine at_iald C 7 mW_c7 h dX8_kinOf_18 ?_
    refine at_cS0 C 1 (c_X8_mirrored X.l X.D X.E X.a1 X.a2 (S.1 9 x1.toNatClampNeg)) gX8_kinOf_X8_mirrored rfl (by decide +kernel) ⟨rfl, rfl⟩ rfl rfl rfl dX8_kinOf_19 ?_
    refine at_lv [0] rfl ?_
    first | (simp only [if_neg hc0] at K; exact K) | exact K
  · replace h := h.1 hc0
    refine at_aload_n C dX8_kinOf_4 rfl (j := 0) rfl ?_
    refine at_get C (K := RX8) (T := TX8) (N := 18) (ci := 7) (v := .ref (ad 7)) iw_X8_kinOf_X8 0 mW_c0 rfl 9 (by decide) lk_X8_kinOf_0 rfl dX8_kinOf_5 ?_
    refine at_iload_n C dX8_kinOf_8 rfl (j := 1) rfl ?_
    refine at_iald C 7 mW_c7 h dX8_kinOf_9 ?_
    refine at_goto C dX8_kinOf_10 (tgt := 22) (by decide) ?_
    refine at_lv [0] rfl ?_
    first | (simp only [if_pos hc0] at K; exact K) | exact K
set_option maxRecDepth 100000 in
theorem r_X8_kinOf_29 {X : Bn} (C : Cx X cX8_kinOf 6 RX8 wsX8_kinOf 4 90) (ad : Nat → Nat) (S : MS) (x3 : Int32) (x4 : Int32) (x5 : Int32) (h : ((S.1 8 0 ≤ x5) → (Ends X (some .int) (some (.int x4)) (mW X.E ad S))) ∧ (¬ S.1 8 0 ≤ x5 → ((vp_in x5 8) ∧ ((p_X8_isOne x3 (S.1 9 x5.toNatClampNeg)) ∧ (At X 6 (mW X.E ad S) 29 [(0, .ref (ad 0)), (3, .int x3), (4, .int (x4 ||| (if (f_X8_isOne x3 (S.1 9 x5.toNatClampNeg)) then ishl 1 x5 else 0))), (5, .int (x5 + 1))] []))))) : At X 6 (mW X.E ad S) 29 [(0, .ref (ad 0)), (3, .int x3), (4, .int x4), (5, .int x5)] [] := by
  refine at_iload C dX8_kinOf_29 (j := 3) rfl ?_
  refine at_aload_n C dX8_kinOf_31 rfl (j := 0) rfl ?_
  refine at_get C (K := RX8) (T := TX8) (N := 18) (ci := 7) (v := .int (S.1 8 0)) iw_X8_kinOf_X8 0 mW_c0 rfl 8 (by decide) lk_X8_kinOf_1 rfl dX8_kinOf_32 ?_
  refine at_icmp_ge C dX8_kinOf_35 (tgt := 71) (by decide) (fun hc0 => ?_) (fun hc0 => ?_)
  · replace h := h.1 hc0
    refine at_iload C dX8_kinOf_71 (j := 2) rfl ?_
    exact at_iret C dX8_kinOf_73 h
  · replace h := h.2 hc0
    refine at_iload C dX8_kinOf_38 (j := 2) rfl ?_
    refine at_iload_n C dX8_kinOf_40 rfl (j := 1) rfl ?_
    refine at_aload_n C dX8_kinOf_41 rfl (j := 0) rfl ?_
    refine at_get C (K := RX8) (T := TX8) (N := 18) (ci := 7) (v := .ref (ad 7)) iw_X8_kinOf_X8 0 mW_c0 rfl 9 (by decide) lk_X8_kinOf_0 rfl dX8_kinOf_42 ?_
    refine at_iload C dX8_kinOf_45 (j := 3) rfl ?_
    refine at_iald C 7 mW_c7 h.1 dX8_kinOf_47 ?_
    replace h := h.2
    refine at_cS0 C 2 (c_X8_isOne X.l X.D X.E X.a1 X.a2 x3 (S.1 9 x5.toNatClampNeg) h.1) gX8_kinOf_X8_isOne rfl (by decide +kernel) ⟨rfl, rfl⟩ rfl rfl rfl dX8_kinOf_48 ?_
    replace h := h.2
    have K : At X 6 (mW X.E ad S) 62 [(0, .ref (ad 0)), (3, .int x3), (5, .int x5)] [.int (if (f_X8_isOne x3 (S.1 9 x5.toNatClampNeg)) then ishl 1 x5 else 0), .int x4] := by
      refine at_ior C dX8_kinOf_62 ?_
      refine at_istore C dX8_kinOf_63 (by decide) (lv' := [(4, .int (x4 ||| (if (f_X8_isOne x3 (S.1 9 x5.toNatClampNeg)) then ishl 1 x5 else 0))), (0, .ref (ad 0)), (3, .int x3), (5, .int x5)]) rfl ?_
      refine at_iinc C dX8_kinOf_65 (j := 3) (v := x5 + 1) rfl rfl (by decide) (lv' := [(5, .int (x5 + 1)), (4, .int (x4 ||| (if (f_X8_isOne x3 (S.1 9 x5.toNatClampNeg)) then ishl 1 x5 else 0))), (0, .ref (ad 0)), (3, .int x3)]) rfl ?_
      refine at_goto C dX8_kinOf_68 (tgt := 29) (by decide) ?_
      refine at_lv [2, 3, 1, 0] rfl ?_
      exact h
    refine at_ifB_eq C dX8_kinOf_51 (tgt := 61) (by decide) (fun hc1 => ?_) (fun hc1 => ?_)
    · skip
      refine at_iconst C dX8_kinOf_61 (v := 0) rfl ?_
      refine at_lv [0, 1, 3] rfl ?_
      first | (simp only [if_neg (show ¬ (f_X8_isOne x3 (S.1 9 x5.toNatClampNeg)) = true by rw [hc1]; decide)] at K; exact K) | exact K
    · skip
      refine at_iconst C dX8_kinOf_54 (v := 1) rfl ?_
      refine at_iload C dX8_kinOf_55 (j := 3) rfl ?_
      refine at_ishl C dX8_kinOf_57 ?_
      refine at_goto C dX8_kinOf_58 (tgt := 62) (by decide) ?_
      refine at_lv [0, 1, 3] rfl ?_
      first | (simp only [if_pos hc1] at K; exact K) | exact K
def kinStep (g : Nat → Int32) (x : Int32) (k : Nat) (a : Int32) : Int32 := a ||| (if (f_X8_isOne x (g k)) then ishl 1 (nI k) else 0)
def kinRow (S : MS) (x1 x2 : Int32) : Int32 := (if x2 = 0 then S.1 9 x1.toNatClampNeg else f_X8_mirrored (S.1 9 x1.toNatClampNeg))
def f_X8_kinOf (S : MS) (x1 x2 : Int32) : Int32 := itF (fun k a => kinStep (S.1 9) (kinRow S x1 x2) k a) 0 (S.1 8 0).toNatClampNeg 0
/-- the shapes that were read -/
def okSh (S : MS) : Prop := ∃ cnt, cnt ≤ 8 ∧ S.1 8 0 = nI cnt ∧ ∀ j, j < cnt → p_X8_movedUp (S.1 9 j)
def p_X8_kinOf (S : MS) (x1 : Int32) : Prop := okSh S ∧ vp_in x1 8 ∧ p_X8_movedUp (S.1 9 x1.toNatClampNeg)
theorem p_mr {x : Int32} (h : p_X8_movedUp x) : p_X8_movedUp (f_X8_mirrored x) := by
  obtain ⟨n, hn, rfl⟩ := p_nI h
  rw [mr_nI hn.2]
  exact sh16_p (sh16_mr hn)
theorem p_tn {x : Int32} (t : Nat) (ht : t < 2 ^ 31) (h : p_X8_movedUp x) : p_X8_movedUp (f_X8_turned x (nI t)) := by
  obtain ⟨n, hn, rfl⟩ := p_nI h
  rw [turned_nI hn.2 ht]
  exact sh16_p (sh16_tnK t hn)
set_option maxRecDepth 100000 in
theorem c_X8_kinOf (l : Launch) (D : va_G) (E : Nat → ClassId) (a1 a2 : Nat) (ad : Nat → Nat) (S : MS) (x1 x2 : Int32) (hp : p_X8_kinOf S x1) : Fn l D E a1 a2 yX8_kinOf wsX8_kinOf 4 90 [.ref (ad 0), .int x1, .int x2] (mW E ad S) (some (.int (f_X8_kinOf S x1 x2))) (mW E ad S) := by
  refine Fn.of (cc := cX8_kinOf) (maxL := 6) (ret := (some .int)) (own := RX8) (by decide) rfl rfl (sameM _ _ _ _) (Nat.le_of_ble_eq_true rfl) (fun X h1 h2 h3 h4 h5 C hE => ?_)
  subst h1 h2 h3 h4 h5
  obtain ⟨⟨cnt, hc, e8, hsh⟩, hin, hx⟩ := hp
  rw [f_X8_kinOf, e8, nI_clamp (by omega)] at hE
  refine r_X8_kinOf_0 C ad S x1 x2 ⟨⟨fun _ => hin, fun _ => hin⟩, ?_⟩
  show At X 6 (mW X.E ad S) 29 [(0, .ref (ad 0)), (3, .int (kinRow S x1 x2)), (4, .int 0), (5, .int 0)] []
  have hrow : p_X8_movedUp (kinRow S x1 x2) := by
    unfold kinRow
    split
    · exact hx
    · exact p_mr hx
  refine for_go (P := fun k a => At X 6 (mW X.E ad S) 29 [(0, .ref (ad 0)), (3, .int (kinRow S x1 x2)), (4, .int a), (5, .int (nI k))] []) (N := cnt) (fun k a => kinStep (S.1 9) (kinRow S x1 x2) k a) (fun k a hk h => ?_) cnt 0 0 (Nat.zero_add cnt) ?_
  · refine r_X8_kinOf_29 C ad S _ a (nI k) ⟨fun q => nlt_no (b := cnt) (by omega) hk (by rw [← e8]; exact q), fun _ => ⟨vp_in_nI (by omega) (by decide), ⟨hrow, ?_⟩, ?_⟩⟩
    · rw [nI_clamp (by omega)]; exact hsh k hk
    · rw [nI_clamp (by omega), nI_1 k]; exact h
  · exact r_X8_kinOf_29 C ad S _ _ (nI cnt) ⟨fun _ => hE, fun q => absurd (by rw [e8]; exact Int32.le_refl _) q⟩
set_option maxRecDepth 20000 in
theorem ggX8_selfOf_X8_turned : GoodIn wsX8_selfOf wsX8_turned := goodIn_r _ [5, 6, 7, 4, 8, 9, 10, 11] (by decide +kernel) (by decide +kernel)
set_option maxRecDepth 20000 in
theorem gX8_selfOf_X8_turned : GoodIn wsX8_selfOf (va_wsS RX8 132 yX8_turned wsX8_turned) := goodIn_app (goodIn_of _ (by decide +kernel)) ggX8_selfOf_X8_turned
set_option maxRecDepth 20000 in
theorem ggX8_selfOf_X8_movedUp : GoodIn wsX8_selfOf wsX8_movedUp := goodIn_r _ [14, 15, 16] (by decide +kernel) (by decide +kernel)
set_option maxRecDepth 20000 in
theorem gX8_selfOf_X8_movedUp : GoodIn wsX8_selfOf (va_wsS RX8 135 yX8_movedUp wsX8_movedUp) := goodIn_app (goodIn_of _ (by decide +kernel)) ggX8_selfOf_X8_movedUp
theorem dX8_selfOf_0 : decode cX8_selfOf 0 = .ok (.iconst 1, 1) := by decide +kernel
theorem dX8_selfOf_1 : decode cX8_selfOf 1 = .ok (.istore_n 2, 1) := by decide +kernel
theorem dX8_selfOf_2 : decode cX8_selfOf 2 = .ok (.aload_n 0, 1) := by decide +kernel
theorem dX8_selfOf_3 : decode cX8_selfOf 3 = .ok (.getfield 28, 3) := by decide +kernel
theorem dX8_selfOf_6 : decode cX8_selfOf 6 = .ok (.iload_n 1, 1) := by decide +kernel
theorem dX8_selfOf_7 : decode cX8_selfOf 7 = .ok (.iaload, 1) := by decide +kernel
theorem dX8_selfOf_8 : decode cX8_selfOf 8 = .ok (.iload_n 2, 1) := by decide +kernel
theorem dX8_selfOf_9 : decode cX8_selfOf 9 = .ok (.invokestatic 132, 3) := by decide +kernel
theorem dX8_selfOf_12 : decode cX8_selfOf 12 = .ok (.invokestatic 135, 3) := by decide +kernel
theorem dX8_selfOf_15 : decode cX8_selfOf 15 = .ok (.aload_n 0, 1) := by decide +kernel
theorem dX8_selfOf_16 : decode cX8_selfOf 16 = .ok (.getfield 28, 3) := by decide +kernel
theorem dX8_selfOf_19 : decode cX8_selfOf 19 = .ok (.iload_n 1, 1) := by decide +kernel
theorem dX8_selfOf_20 : decode cX8_selfOf 20 = .ok (.iaload, 1) := by decide +kernel
theorem dX8_selfOf_21 : decode cX8_selfOf 21 = .ok (.invokestatic 135, 3) := by decide +kernel
theorem dX8_selfOf_24 : decode cX8_selfOf 24 = .ok (.if_icmp .eq 9, 3) := by decide +kernel
theorem dX8_selfOf_27 : decode cX8_selfOf 27 = .ok (.iinc 2 1, 3) := by decide +kernel
theorem dX8_selfOf_30 : decode cX8_selfOf 30 = .ok (.goto (-28), 3) := by decide +kernel
theorem dX8_selfOf_33 : decode cX8_selfOf 33 = .ok (.iload_n 2, 1) := by decide +kernel
theorem dX8_selfOf_34 : decode cX8_selfOf 34 = .ok (.ireturn, 1) := by decide +kernel
theorem iw_X8_selfOf_X8 : ∀ w ∈ u_ws RX8 TX8 18, w ∈ wsX8_selfOf := by decide +kernel
theorem lk_X8_selfOf_0 : Cond.fieldLink RX8 28 (TX8 9).1 (TX8 9).2.1 (TX8 9).2.2.1 ∈ wsX8_selfOf := by decide +kernel
set_option maxRecDepth 100000 in
theorem r_X8_selfOf_0 {X : Bn} (C : Cx X cX8_selfOf 3 RX8 wsX8_selfOf 3 67) (ad : Nat → Nat) (S : MS) (x1 : Int32) (h : At X 3 (mW X.E ad S) 2 [(0, .ref (ad 0)), (1, .int x1), (2, .int 1)] []) : At X 3 (mW X.E ad S) 0 [(0, .ref (ad 0)), (1, .int x1)] [] := by
  refine at_iconst C dX8_selfOf_0 (v := 1) rfl ?_
  refine at_istore_n C dX8_selfOf_1 rfl (by decide) (lv' := [(2, .int 1), (0, .ref (ad 0)), (1, .int x1)]) rfl ?_
  refine at_lv [1, 2, 0] rfl ?_
  exact h
set_option maxRecDepth 100000 in
theorem r_X8_selfOf_2 {X : Bn} (C : Cx X cX8_selfOf 3 RX8 wsX8_selfOf 3 67) (ad : Nat → Nat) (S : MS) (x1 : Int32) (x2 : Int32) (h : (vp_in x1 8) ∧ ((p_X8_movedUp (f_X8_turned (S.1 9 x1.toNatClampNeg) x2)) ∧ ((vp_in x1 8) ∧ ((p_X8_movedUp (S.1 9 x1.toNatClampNeg)) ∧ (((f_X8_movedUp (f_X8_turned (S.1 9 x1.toNatClampNeg) x2) = f_X8_movedUp (S.1 9 x1.toNatClampNeg)) → (Ends X (some .int) (some (.int x2)) (mW X.E ad S))) ∧ (¬ f_X8_movedUp (f_X8_turned (S.1 9 x1.toNatClampNeg) x2) = f_X8_movedUp (S.1 9 x1.toNatClampNeg) → (At X 3 (mW X.E ad S) 2 [(0, .ref (ad 0)), (1, .int x1), (2, .int (x2 + 1))] []))))))) : At X 3 (mW X.E ad S) 2 [(0, .ref (ad 0)), (1, .int x1), (2, .int x2)] [] := by
  refine at_aload_n C dX8_selfOf_2 rfl (j := 0) rfl ?_
  refine at_get C (K := RX8) (T := TX8) (N := 18) (ci := 7) (v := .ref (ad 7)) iw_X8_selfOf_X8 0 mW_c0 rfl 9 (by decide) lk_X8_selfOf_0 rfl dX8_selfOf_3 ?_
  refine at_iload_n C dX8_selfOf_6 rfl (j := 1) rfl ?_
  refine at_iald C 7 mW_c7 h.1 dX8_selfOf_7 ?_
  replace h := h.2
  refine at_iload_n C dX8_selfOf_8 rfl (j := 2) rfl ?_
  refine at_cS0 C 2 (c_X8_turned X.l X.D X.E X.a1 X.a2 (S.1 9 x1.toNatClampNeg) x2) gX8_selfOf_X8_turned rfl (by decide +kernel) ⟨rfl, rfl⟩ rfl rfl rfl dX8_selfOf_9 ?_
  refine at_cS0 C 1 (c_X8_movedUp X.l X.D X.E X.a1 X.a2 (f_X8_turned (S.1 9 x1.toNatClampNeg) x2) h.1) gX8_selfOf_X8_movedUp rfl (by decide +kernel) ⟨rfl, rfl⟩ rfl rfl rfl dX8_selfOf_12 ?_
  replace h := h.2
  refine at_aload_n C dX8_selfOf_15 rfl (j := 0) rfl ?_
  refine at_get C (K := RX8) (T := TX8) (N := 18) (ci := 7) (v := .ref (ad 7)) iw_X8_selfOf_X8 0 mW_c0 rfl 9 (by decide) lk_X8_selfOf_0 rfl dX8_selfOf_16 ?_
  refine at_iload_n C dX8_selfOf_19 rfl (j := 1) rfl ?_
  refine at_iald C 7 mW_c7 h.1 dX8_selfOf_20 ?_
  replace h := h.2
  refine at_cS0 C 1 (c_X8_movedUp X.l X.D X.E X.a1 X.a2 (S.1 9 x1.toNatClampNeg) h.1) gX8_selfOf_X8_movedUp rfl (by decide +kernel) ⟨rfl, rfl⟩ rfl rfl rfl dX8_selfOf_21 ?_
  replace h := h.2
  refine at_icmp_eq C dX8_selfOf_24 (tgt := 33) (by decide) (fun hc0 => ?_) (fun hc0 => ?_)
  · replace h := h.1 hc0
    refine at_iload_n C dX8_selfOf_33 rfl (j := 2) rfl ?_
    exact at_iret C dX8_selfOf_34 h
  · replace h := h.2 hc0
    refine at_iinc C dX8_selfOf_27 (j := 2) (v := x2 + 1) rfl rfl (by decide) (lv' := [(2, .int (x2 + 1)), (0, .ref (ad 0)), (1, .int x1)]) rfl ?_
    refine at_goto C dX8_selfOf_30 (tgt := 2) (by decide) ?_
    refine at_lv [1, 2, 0] rfl ?_
    exact h
def slf (x : Int32) : Int32 := if f_X8_movedUp (f_X8_turned x 1) = f_X8_movedUp x then 1 else if f_X8_movedUp (f_X8_turned x 2) = f_X8_movedUp x then 2 else if f_X8_movedUp (f_X8_turned x 3) = f_X8_movedUp x then 3 else 4
def f_X8_selfOf (S : MS) (x1 : Int32) : Int32 := slf (S.1 9 x1.toNatClampNeg)
def p_X8_selfOf (S : MS) (x1 : Int32) : Prop := vp_in x1 8 ∧ p_X8_movedUp (S.1 9 x1.toNatClampNeg)
set_option maxRecDepth 100000 in
theorem c_X8_selfOf (l : Launch) (D : va_G) (E : Nat → ClassId) (a1 a2 : Nat) (ad : Nat → Nat) (S : MS) (x1 : Int32) (hp : p_X8_selfOf S x1) : Fn l D E a1 a2 yX8_selfOf wsX8_selfOf 3 67 [.ref (ad 0), .int x1] (mW E ad S) (some (.int (f_X8_selfOf S x1))) (mW E ad S) := by
  refine Fn.of (cc := cX8_selfOf) (maxL := 3) (ret := (some .int)) (own := RX8) (by decide) rfl rfl (sameM _ _ _ _) (Nat.le_of_ble_eq_true rfl) (fun X h1 h2 h3 h4 h5 C hE => ?_)
  subst h1 h2 h3 h4 h5
  obtain ⟨hin, hx⟩ := hp
  refine r_X8_selfOf_0 C ad S x1 ?_
  have h4 : f_X8_turned (S.1 9 x1.toNatClampNeg) 4 = S.1 9 x1.toNatClampNeg := by
    obtain ⟨n, hn, e⟩ := p_nI hx
    rw [e, show (4 : Int32) = nI 4 from rfl, turned_nI hn.2 (by decide), tnK_4 hn.2]
  refine r_X8_selfOf_2 C ad S x1 1 ⟨hin, p_tn 1 (by decide) hx, hin, hx, fun q => ?_, fun q1 => ?_⟩
  · rw [f_X8_selfOf, slf, if_pos q] at hE; exact hE
  refine r_X8_selfOf_2 C ad S x1 2 ⟨hin, p_tn 2 (by decide) hx, hin, hx, fun q => ?_, fun q2 => ?_⟩
  · rw [f_X8_selfOf, slf, if_neg q1, if_pos q] at hE; exact hE
  refine r_X8_selfOf_2 C ad S x1 3 ⟨hin, p_tn 3 (by decide) hx, hin, hx, fun q => ?_, fun q3 => ?_⟩
  · rw [f_X8_selfOf, slf, if_neg q1, if_neg q2, if_pos q] at hE; exact hE
  refine r_X8_selfOf_2 C ad S x1 4 ⟨hin, p_tn 4 (by decide) hx, hin, hx, fun q => ?_, fun q4 => absurd (by rw [h4]) q4⟩
  rw [f_X8_selfOf, slf, if_neg q1, if_neg q2, if_neg q3] at hE; exact hE
set_option maxRecDepth 20000 in
theorem ggX8_canStand_X8_bitOf : GoodIn wsX8_canStand wsX8_bitOf := goodIn_r _ [5] (by decide +kernel) (by decide +kernel)
set_option maxRecDepth 20000 in
theorem gX8_canStand_X8_bitOf : GoodIn wsX8_canStand (va_wsS RX8 124 yX8_bitOf wsX8_bitOf) := goodIn_app (goodIn_of _ (by decide +kernel)) ggX8_canStand_X8_bitOf
set_option maxRecDepth 20000 in
theorem ggX8_canStand_X8_isIn : GoodIn wsX8_canStand wsX8_isIn := goodIn_r _ [8] (by decide +kernel) (by decide +kernel)
set_option maxRecDepth 20000 in
theorem gX8_canStand_X8_isIn : GoodIn wsX8_canStand (va_wsS RX8 152 yX8_isIn wsX8_isIn) := goodIn_app (goodIn_of _ (by decide +kernel)) ggX8_canStand_X8_isIn
theorem dX8_canStand_0 : decode cX8_canStand 0 = .ok (.iconst 1, 1) := by decide +kernel
theorem dX8_canStand_1 : decode cX8_canStand 1 = .ok (.istore_n 3, 1) := by decide +kernel
theorem dX8_canStand_2 : decode cX8_canStand 2 = .ok (.iconst 0, 1) := by decide +kernel
theorem dX8_canStand_3 : decode cX8_canStand 3 = .ok (.istore 4, 2) := by decide +kernel
theorem dX8_canStand_5 : decode cX8_canStand 5 = .ok (.iload 4, 2) := by decide +kernel
theorem dX8_canStand_7 : decode cX8_canStand 7 = .ok (.iconst 4, 1) := by decide +kernel
theorem dX8_canStand_8 : decode cX8_canStand 8 = .ok (.if_icmp .ge 96, 3) := by decide +kernel
theorem dX8_canStand_11 : decode cX8_canStand 11 = .ok (.iconst 0, 1) := by decide +kernel
theorem dX8_canStand_12 : decode cX8_canStand 12 = .ok (.istore 5, 2) := by decide +kernel
theorem dX8_canStand_14 : decode cX8_canStand 14 = .ok (.iload 5, 2) := by decide +kernel
theorem dX8_canStand_16 : decode cX8_canStand 16 = .ok (.iconst 4, 1) := by decide +kernel
theorem dX8_canStand_17 : decode cX8_canStand 17 = .ok (.if_icmp .ge 81, 3) := by decide +kernel
theorem dX8_canStand_20 : decode cX8_canStand 20 = .ok (.iload_n 2, 1) := by decide +kernel
theorem dX8_canStand_21 : decode cX8_canStand 21 = .ok (.bipush 8, 2) := by decide +kernel
theorem dX8_canStand_23 : decode cX8_canStand 23 = .ok (.idiv, 1) := by decide +kernel
theorem dX8_canStand_24 : decode cX8_canStand 24 = .ok (.iload 4, 2) := by decide +kernel
theorem dX8_canStand_26 : decode cX8_canStand 26 = .ok (.iadd, 1) := by decide +kernel
theorem dX8_canStand_27 : decode cX8_canStand 27 = .ok (.istore 6, 2) := by decide +kernel
theorem dX8_canStand_29 : decode cX8_canStand 29 = .ok (.iload_n 2, 1) := by decide +kernel
theorem dX8_canStand_30 : decode cX8_canStand 30 = .ok (.bipush 8, 2) := by decide +kernel
theorem dX8_canStand_32 : decode cX8_canStand 32 = .ok (.irem, 1) := by decide +kernel
theorem dX8_canStand_33 : decode cX8_canStand 33 = .ok (.iload 5, 2) := by decide +kernel
theorem dX8_canStand_35 : decode cX8_canStand 35 = .ok (.iadd, 1) := by decide +kernel
theorem dX8_canStand_36 : decode cX8_canStand 36 = .ok (.istore 7, 2) := by decide +kernel
theorem dX8_canStand_38 : decode cX8_canStand 38 = .ok (.iload_n 3, 1) := by decide +kernel
theorem dX8_canStand_39 : decode cX8_canStand 39 = .ok (.ifCond .eq 51, 3) := by decide +kernel
theorem dX8_canStand_42 : decode cX8_canStand 42 = .ok (.iload_n 1, 1) := by decide +kernel
theorem dX8_canStand_43 : decode cX8_canStand 43 = .ok (.iload 4, 2) := by decide +kernel
theorem dX8_canStand_45 : decode cX8_canStand 45 = .ok (.iload 5, 2) := by decide +kernel
theorem dX8_canStand_47 : decode cX8_canStand 47 = .ok (.invokestatic 124, 3) := by decide +kernel
theorem dX8_canStand_50 : decode cX8_canStand 50 = .ok (.invokestatic 152, 3) := by decide +kernel
theorem dX8_canStand_53 : decode cX8_canStand 53 = .ok (.ifCond .eq 33, 3) := by decide +kernel
theorem dX8_canStand_56 : decode cX8_canStand 56 = .ok (.iload 6, 2) := by decide +kernel
theorem dX8_canStand_58 : decode cX8_canStand 58 = .ok (.bipush 8, 2) := by decide +kernel
theorem dX8_canStand_60 : decode cX8_canStand 60 = .ok (.if_icmp .ge 30, 3) := by decide +kernel
theorem dX8_canStand_63 : decode cX8_canStand 63 = .ok (.iload 7, 2) := by decide +kernel
theorem dX8_canStand_65 : decode cX8_canStand 65 = .ok (.bipush 8, 2) := by decide +kernel
theorem dX8_canStand_67 : decode cX8_canStand 67 = .ok (.if_icmp .ge 23, 3) := by decide +kernel
theorem dX8_canStand_70 : decode cX8_canStand 70 = .ok (.aload_n 0, 1) := by decide +kernel
theorem dX8_canStand_71 : decode cX8_canStand 71 = .ok (.getfield 31, 3) := by decide +kernel
theorem dX8_canStand_74 : decode cX8_canStand 74 = .ok (.bipush 8, 2) := by decide +kernel
theorem dX8_canStand_76 : decode cX8_canStand 76 = .ok (.iload 6, 2) := by decide +kernel
theorem dX8_canStand_78 : decode cX8_canStand 78 = .ok (.imul, 1) := by decide +kernel
theorem dX8_canStand_79 : decode cX8_canStand 79 = .ok (.iload 7, 2) := by decide +kernel
theorem dX8_canStand_81 : decode cX8_canStand 81 = .ok (.iadd, 1) := by decide +kernel
theorem dX8_canStand_82 : decode cX8_canStand 82 = .ok (.baload, 1) := by decide +kernel
theorem dX8_canStand_83 : decode cX8_canStand 83 = .ok (.ifCond .eq 7, 3) := by decide +kernel
theorem dX8_canStand_86 : decode cX8_canStand 86 = .ok (.iconst 1, 1) := by decide +kernel
theorem dX8_canStand_87 : decode cX8_canStand 87 = .ok (.goto 4, 3) := by decide +kernel
theorem dX8_canStand_90 : decode cX8_canStand 90 = .ok (.iconst 0, 1) := by decide +kernel
theorem dX8_canStand_91 : decode cX8_canStand 91 = .ok (.istore_n 3, 1) := by decide +kernel
theorem dX8_canStand_92 : decode cX8_canStand 92 = .ok (.iinc 5 1, 3) := by decide +kernel
theorem dX8_canStand_95 : decode cX8_canStand 95 = .ok (.goto (-81), 3) := by decide +kernel
theorem dX8_canStand_98 : decode cX8_canStand 98 = .ok (.iinc 4 1, 3) := by decide +kernel
theorem dX8_canStand_101 : decode cX8_canStand 101 = .ok (.goto (-96), 3) := by decide +kernel
theorem dX8_canStand_104 : decode cX8_canStand 104 = .ok (.iload_n 3, 1) := by decide +kernel
theorem dX8_canStand_105 : decode cX8_canStand 105 = .ok (.ireturn, 1) := by decide +kernel
theorem iw_X8_canStand_X8 : ∀ w ∈ u_ws RX8 TX8 18, w ∈ wsX8_canStand := by decide +kernel
theorem lk_X8_canStand_0 : Cond.fieldLink RX8 31 (TX8 10).1 (TX8 10).2.1 (TX8 10).2.2.1 ∈ wsX8_canStand := by decide +kernel
set_option maxRecDepth 100000 in
theorem r_X8_canStand_0 {X : Bn} (C : Cx X cX8_canStand 8 RX8 wsX8_canStand 1 21) (ad : Nat → Nat) (S : MS) (x1 : Int32) (x2 : Int32) (h : At X 8 (mW X.E ad S) 5 [(0, .ref (ad 0)), (1, .int x1), (2, .int x2), (3, .int 1), (4, .int 0)] []) : At X 8 (mW X.E ad S) 0 [(0, .ref (ad 0)), (1, .int x1), (2, .int x2)] [] := by
  refine at_iconst C dX8_canStand_0 (v := 1) rfl ?_
  refine at_istore_n C dX8_canStand_1 rfl (by decide) (lv' := [(3, .int 1), (0, .ref (ad 0)), (1, .int x1), (2, .int x2)]) rfl ?_
  refine at_iconst C dX8_canStand_2 (v := 0) rfl ?_
  refine at_istore C dX8_canStand_3 (by decide) (lv' := [(4, .int 0), (3, .int 1), (0, .ref (ad 0)), (1, .int x1), (2, .int x2)]) rfl ?_
  refine at_lv [2, 3, 4, 1, 0] rfl ?_
  exact h
set_option maxRecDepth 100000 in
theorem r_X8_canStand_5 {X : Bn} (C : Cx X cX8_canStand 8 RX8 wsX8_canStand 1 21) (ad : Nat → Nat) (S : MS) (x1 : Int32) (x2 : Int32) (x3 : Int32) (x4 : Int32) (h : ((4 ≤ x4) → ((narrow .boolean (.int x3) = .int x3) ∧ (Ends X (some .boolean) (some (.int x3)) (mW X.E ad S)))) ∧ (¬ 4 ≤ x4 → (At X 8 (mW X.E ad S) 14 [(0, .ref (ad 0)), (1, .int x1), (2, .int x2), (3, .int x3), (4, .int x4), (5, .int 0)] []))) : At X 8 (mW X.E ad S) 5 [(0, .ref (ad 0)), (1, .int x1), (2, .int x2), (3, .int x3), (4, .int x4)] [] := by
  refine at_iload C dX8_canStand_5 (j := 4) rfl ?_
  refine at_iconst C dX8_canStand_7 (v := 4) rfl ?_
  refine at_icmp_ge C dX8_canStand_8 (tgt := 104) (by decide) (fun hc0 => ?_) (fun hc0 => ?_)
  · replace h := h.1 hc0
    refine at_iload_n C dX8_canStand_104 rfl (j := 3) rfl ?_
    exact at_zret C dX8_canStand_105 h.1 h.2
  · replace h := h.2 hc0
    refine at_iconst C dX8_canStand_11 (v := 0) rfl ?_
    refine at_istore C dX8_canStand_12 (by decide) (lv' := [(5, .int 0), (0, .ref (ad 0)), (1, .int x1), (2, .int x2), (3, .int x3), (4, .int x4)]) rfl ?_
    refine at_lv [1, 2, 3, 4, 5, 0] rfl ?_
    exact h
set_option maxRecDepth 100000 in
theorem r_X8_canStand_14 {X : Bn} (C : Cx X cX8_canStand 8 RX8 wsX8_canStand 1 21) (ad : Nat → Nat) (S : MS) (x1 : Int32) (x2 : Int32) (x3 : Int32) (x4 : Int32) (x5 : Int32) (h : ((4 ≤ x5) → (At X 8 (mW X.E ad S) 5 [(0, .ref (ad 0)), (1, .int x1), (2, .int x2), (3, .int x3), (4, .int (x4 + 1))] [])) ∧ (¬ 4 ≤ x5 → ((((¬ x3 = 0) → (((f_X8_isIn x1 (f_X8_bitOf x4 x5)) = true) → ((¬ 8 ≤ (x2 / 8) + x4) → ((¬ 8 ≤ (irm x2 8) + x5) → (vp_in ((8 * ((x2 / 8) + x4)) + ((irm x2 8) + x5)) 64)))))) ∧ (At X 8 (mW X.E ad S) 14 [(0, .ref (ad 0)), (1, .int x1), (2, .int x2), (3, .int (b2i (if x3 = 0 then false else (if (f_X8_isIn x1 (f_X8_bitOf x4 x5)) then (if 8 ≤ (x2 / 8) + x4 then false else (if 8 ≤ (irm x2 8) + x5 then false else (if S.1 10 (((8 * ((x2 / 8) + x4)) + ((irm x2 8) + x5)).toNatClampNeg) = 0 then false else true))) else true)))), (4, .int x4), (5, .int (x5 + 1))] [])))) : At X 8 (mW X.E ad S) 14 [(0, .ref (ad 0)), (1, .int x1), (2, .int x2), (3, .int x3), (4, .int x4), (5, .int x5)] [] := by
  refine at_iload C dX8_canStand_14 (j := 5) rfl ?_
  refine at_iconst C dX8_canStand_16 (v := 4) rfl ?_
  refine at_icmp_ge C dX8_canStand_17 (tgt := 98) (by decide) (fun hc1 => ?_) (fun hc1 => ?_)
  · replace h := h.1 hc1
    refine at_iinc C dX8_canStand_98 (j := 4) (v := x4 + 1) rfl rfl (by decide) (lv' := [(4, .int (x4 + 1)), (0, .ref (ad 0)), (1, .int x1), (2, .int x2), (3, .int x3), (5, .int x5)]) rfl ?_
    refine at_goto C dX8_canStand_101 (tgt := 5) (by decide) ?_
    refine at_lv [1, 2, 3, 4, 0] rfl ?_
    exact h
  · replace h := h.2 hc1
    refine at_iload_n C dX8_canStand_20 rfl (j := 2) rfl ?_
    refine at_bipush C dX8_canStand_21 (v := 8) rfl ?_
    refine at_idiv C dX8_canStand_23 (by decide) ?_
    refine at_iload C dX8_canStand_24 (j := 4) rfl ?_
    refine at_iadd C dX8_canStand_26 ?_
    refine at_istore C dX8_canStand_27 (by decide) (lv' := [(6, .int ((x2 / 8) + x4)), (0, .ref (ad 0)), (1, .int x1), (2, .int x2), (3, .int x3), (4, .int x4), (5, .int x5)]) rfl ?_
    refine at_iload_n C dX8_canStand_29 rfl (j := 3) rfl ?_
    refine at_bipush C dX8_canStand_30 (v := 8) rfl ?_
    refine at_irem C dX8_canStand_32 (by decide) ?_
    refine at_iload C dX8_canStand_33 (j := 6) rfl ?_
    refine at_iadd C dX8_canStand_35 ?_
    refine at_istore C dX8_canStand_36 (by decide) (lv' := [(7, .int ((irm x2 8) + x5)), (6, .int ((x2 / 8) + x4)), (0, .ref (ad 0)), (1, .int x1), (2, .int x2), (3, .int x3), (4, .int x4), (5, .int x5)]) rfl ?_
    refine at_iload_n C dX8_canStand_38 rfl (j := 5) rfl ?_
    have hq := h.1
    replace h := h.2
    have K : At X 8 (mW X.E ad S) 91 [(0, .ref (ad 0)), (1, .int x1), (2, .int x2), (4, .int x4), (5, .int x5)] [.int (b2i (if x3 = 0 then false else (if (f_X8_isIn x1 (f_X8_bitOf x4 x5)) then (if 8 ≤ (x2 / 8) + x4 then false else (if 8 ≤ (irm x2 8) + x5 then false else (if S.1 10 (((8 * ((x2 / 8) + x4)) + ((irm x2 8) + x5)).toNatClampNeg) = 0 then false else true))) else true)))] := by
      refine at_istore_n C dX8_canStand_91 rfl (by decide) (lv' := [(3, .int (b2i (if x3 = 0 then false else (if (f_X8_isIn x1 (f_X8_bitOf x4 x5)) then (if 8 ≤ (x2 / 8) + x4 then false else (if 8 ≤ (irm x2 8) + x5 then false else (if S.1 10 (((8 * ((x2 / 8) + x4)) + ((irm x2 8) + x5)).toNatClampNeg) = 0 then false else true))) else true)))), (0, .ref (ad 0)), (1, .int x1), (2, .int x2), (4, .int x4), (5, .int x5)]) rfl ?_
      refine at_iinc C dX8_canStand_92 (j := 5) (v := x5 + 1) rfl rfl (by decide) (lv' := [(5, .int (x5 + 1)), (3, .int (b2i (if x3 = 0 then false else (if (f_X8_isIn x1 (f_X8_bitOf x4 x5)) then (if 8 ≤ (x2 / 8) + x4 then false else (if 8 ≤ (irm x2 8) + x5 then false else (if S.1 10 (((8 * ((x2 / 8) + x4)) + ((irm x2 8) + x5)).toNatClampNeg) = 0 then false else true))) else true)))), (0, .ref (ad 0)), (1, .int x1), (2, .int x2), (4, .int x4)]) rfl ?_
      refine at_goto C dX8_canStand_95 (tgt := 14) (by decide) ?_
      refine at_lv [2, 3, 4, 1, 5, 0] rfl ?_
      exact h
    replace h := hq
    refine at_if_eq C dX8_canStand_39 (tgt := 90) (by decide) (fun hc2 => ?_) (fun hc2 => ?_)
    · skip
      refine at_iconst C dX8_canStand_90 (v := 0) rfl ?_
      refine at_lv [2, 3, 4, 6, 7] rfl ?_
      first | (simp only [if_pos hc2] at K; exact K) | exact K
    · replace h := h hc2
      refine at_iload_n C dX8_canStand_42 rfl (j := 3) rfl ?_
      refine at_iload C dX8_canStand_43 (j := 6) rfl ?_
      refine at_iload C dX8_canStand_45 (j := 7) rfl ?_
      refine at_cS0 C 2 (c_X8_bitOf X.l X.D X.E X.a1 X.a2 x4 x5) gX8_canStand_X8_bitOf rfl (by decide +kernel) ⟨rfl, rfl⟩ rfl rfl rfl dX8_canStand_47 ?_
      refine at_cS0 C 2 (c_X8_isIn X.l X.D X.E X.a1 X.a2 x1 (f_X8_bitOf x4 x5)) gX8_canStand_X8_isIn rfl (by decide +kernel) ⟨rfl, rfl⟩ rfl rfl rfl dX8_canStand_50 ?_
      refine at_ifB_eq C dX8_canStand_53 (tgt := 86) (by decide) (fun hc3 => ?_) (fun hc3 => ?_)
      · skip
        refine at_iconst C dX8_canStand_86 (v := 1) rfl ?_
        refine at_goto C dX8_canStand_87 (tgt := 91) (by decide) ?_
        refine at_lv [2, 3, 4, 6, 7] rfl ?_
        first | (simp only [if_neg hc2, if_neg (show ¬ (f_X8_isIn x1 (f_X8_bitOf x4 x5)) = true by rw [hc3]; decide)] at K; exact K) | exact K
      · replace h := h hc3
        refine at_iload C dX8_canStand_56 (j := 1) rfl ?_
        refine at_bipush C dX8_canStand_58 (v := 8) rfl ?_
        refine at_icmp_ge C dX8_canStand_60 (tgt := 90) (by decide) (fun hc4 => ?_) (fun hc4 => ?_)
        · skip
          refine at_iconst C dX8_canStand_90 (v := 0) rfl ?_
          refine at_lv [2, 3, 4, 6, 7] rfl ?_
          first | (simp only [if_neg hc2, if_pos hc3, if_pos hc4] at K; exact K) | exact K
        · replace h := h hc4
          refine at_iload C dX8_canStand_63 (j := 0) rfl ?_
          refine at_bipush C dX8_canStand_65 (v := 8) rfl ?_
          refine at_icmp_ge C dX8_canStand_67 (tgt := 90) (by decide) (fun hc5 => ?_) (fun hc5 => ?_)
          · skip
            refine at_iconst C dX8_canStand_90 (v := 0) rfl ?_
            refine at_lv [2, 3, 4, 6, 7] rfl ?_
            first | (simp only [if_neg hc2, if_pos hc3, if_neg hc4, if_pos hc5] at K; exact K) | exact K
          · replace h := h hc5
            refine at_aload_n C dX8_canStand_70 rfl (j := 2) rfl ?_
            refine at_get C (K := RX8) (T := TX8) (N := 18) (ci := 7) (v := .ref (ad 8)) iw_X8_canStand_X8 0 mW_c0 rfl 10 (by decide) lk_X8_canStand_0 rfl dX8_canStand_71 ?_
            refine at_bipush C dX8_canStand_74 (v := 8) rfl ?_
            refine at_iload C dX8_canStand_76 (j := 1) rfl ?_
            refine at_imul C dX8_canStand_78 ?_
            refine at_iload C dX8_canStand_79 (j := 0) rfl ?_
            refine at_iadd C dX8_canStand_81 ?_
            refine at_zald C 8 mW_c8 h dX8_canStand_82 ?_
            refine at_if_eq C dX8_canStand_83 (tgt := 90) (by decide) (fun hc6 => ?_) (fun hc6 => ?_)
            · skip
              refine at_iconst C dX8_canStand_90 (v := 0) rfl ?_
              refine at_lv [2, 3, 4, 6, 7] rfl ?_
              first | (simp only [if_neg hc2, if_pos hc3, if_neg hc4, if_neg hc5, if_pos hc6] at K; exact K) | exact K
            · skip
              refine at_iconst C dX8_canStand_86 (v := 1) rfl ?_
              refine at_goto C dX8_canStand_87 (tgt := 91) (by decide) ?_
              refine at_lv [2, 3, 4, 6, 7] rfl ?_
              first | (simp only [if_neg hc2, if_pos hc3, if_neg hc4, if_neg hc5, if_neg hc6] at K; exact K) | exact K
def csStep (g : Nat → Int32) (x1 : Int32) (cell r c : Nat) (a : Bool) : Bool := a && (if (f_X8_isIn x1 (f_X8_bitOf (nI r) (nI c))) then (if 8 ≤ cell / 8 + r then false else (if 8 ≤ cell % 8 + c then false else (if g (8 * (cell / 8 + r) + (cell % 8 + c)) = 0 then false else true))) else true)
def f_X8_canStand (S : MS) (x1 x2 : Int32) : Bool := itF (fun r a => itF (fun c a => csStep (S.1 10) x1 x2.toNatClampNeg r c a) 0 4 a) 0 4 true
def p_X8_canStand (x2 : Int32) : Prop := ∃ c, c < 64 ∧ x2 = nI c
theorem if_dec_congr {α : Type} {p q : Prop} {ip : Decidable p} {iq : Decidable q} (h : p ↔ q) (a b : α) : @ite α p ip a b = @ite α q iq a b := by
  by_cases hp : p
  · rw [if_pos hp, if_pos (h.mp hp)]
  · rw [if_neg hp, if_neg (fun z => hp (h.mpr z))]
theorem irm_nI {a d : Nat} (ha : a < 2 ^ 31) (h0 : 0 < d) (hd : d < 2 ^ 31) : irm (nI a) (nI d) = nI (a % d) := pk_rem ha h0 hd
set_option maxRecDepth 100000 in
theorem c_X8_canStand (l : Launch) (D : va_G) (E : Nat → ClassId) (a1 a2 : Nat) (ad : Nat → Nat) (S : MS) (x1 x2 : Int32) (hp : p_X8_canStand x2) : Fn l D E a1 a2 yX8_canStand wsX8_canStand 1 21 [.ref (ad 0), .int x1, .int x2] (mW E ad S) (some (.int (b2i (f_X8_canStand S x1 x2)))) (mW E ad S) := by
  refine Fn.of (cc := cX8_canStand) (maxL := 8) (ret := (some .boolean)) (own := RX8) (by decide) rfl rfl (sameM _ _ _ _) (Nat.le_of_ble_eq_true rfl) (fun X h1 h2 h3 h4 h5 C hE => ?_)
  subst h1 h2 h3 h4 h5
  obtain ⟨cell, hcell, rfl⟩ := hp
  rw [f_X8_canStand, nI_clamp (by omega)] at hE
  refine r_X8_canStand_0 C ad S x1 (nI cell) ?_
  have ed : nI cell / 8 = nI (cell / 8) := pk_div (d := 8) (by omega) (by decide) (by decide)
  have em : irm (nI cell) 8 = nI (cell % 8) := irm_nI (d := 8) (by omega) (by decide) (by decide)
  refine for_go (P := fun r a => At X 8 (mW X.E ad S) 5 [(0, .ref (ad 0)), (1, .int x1), (2, .int (nI cell)), (3, .int (b2i a)), (4, .int (nI r))] []) (N := 4) (fun r a => itF (fun c a => csStep (S.1 10) x1 cell r c a) 0 4 a) (fun r a hr h => ?_) 4 0 true rfl ?_
  · refine r_X8_canStand_5 C ad S x1 (nI cell) (b2i a) (nI r) ⟨fun q => nlt_no (by decide) hr q, fun _ => ?_⟩
    refine for_go (P := fun c a => At X 8 (mW X.E ad S) 14 [(0, .ref (ad 0)), (1, .int x1), (2, .int (nI cell)), (3, .int (b2i a)), (4, .int (nI r)), (5, .int (nI c))] []) (N := 4) (fun c a => csStep (S.1 10) x1 cell r c a) (fun c a hc h => ?_) 4 0 a rfl ?_
    · have e1 : (8 * (nI cell / 8 + nI r)) + (irm (nI cell) 8 + nI c) = nI (8 * (cell / 8 + r) + (cell % 8 + c)) := by
        rw [ed, em, nI_add, nI_add, show (8 : Int32) = nI 8 from rfl, pk_mul, nI_add]
      have e2 : (8 ≤ nI cell / 8 + nI r) ↔ 8 ≤ cell / 8 + r := by rw [ed, nI_add]; exact nle (a := 8) (by decide) (by omega)
      have e3 : (8 ≤ irm (nI cell) 8 + nI c) ↔ 8 ≤ cell % 8 + c := by rw [em, nI_add]; exact nle (a := 8) (by decide) (by omega)
      refine r_X8_canStand_14 C ad S x1 (nI cell) (b2i a) (nI r) (nI c) ⟨fun q => nlt_no (by decide) hc q, fun _ => ⟨fun _ _ q1 q2 => ?_, ?_⟩⟩
      · rw [e1]
        rw [e2] at q1
        rw [e3] at q2
        exact vp_in_nI (by omega) (by decide)
      · rw [nI_1 c, e1, if_dec_congr e2, if_dec_congr e3]
        have e4 : ∀ q : ¬ 8 ≤ cell / 8 + r, ∀ q2 : ¬ 8 ≤ cell % 8 + c, (nI (8 * (cell / 8 + r) + (cell % 8 + c))).toNatClampNeg = 8 * (cell / 8 + r) + (cell % 8 + c) := fun q q2 => nI_clamp (by omega)
        have e5 : (if b2i a = 0 then false else (if (f_X8_isIn x1 (f_X8_bitOf (nI r) (nI c))) then (if 8 ≤ cell / 8 + r then false else (if 8 ≤ cell % 8 + c then false else (if S.1 10 (nI (8 * (cell / 8 + r) + (cell % 8 + c))).toNatClampNeg = 0 then false else true))) else true)) = csStep (S.1 10) x1 cell r c a := by
          unfold csStep
          cases a
          · rfl
          · rw [if_neg (show ¬ b2i true = 0 by decide), Bool.true_and]
            by_cases q : 8 ≤ cell / 8 + r
            · simp only [if_pos q]
            · by_cases q2 : 8 ≤ cell % 8 + c
              · simp only [if_neg q, if_pos q2]
              · rw [e4 q q2]
        rw [e5]
        exact h
    · exact r_X8_canStand_14 C ad S x1 (nI cell) _ (nI r) (nI 4) ⟨fun _ => by rw [nI_1 r]; exact h, fun q => nle_no q⟩
  · exact r_X8_canStand_5 C ad S x1 (nI cell) _ (nI 4) ⟨fun _ => ⟨b2i_nar _, hE⟩, fun q => nle_no q⟩
