theorem dX8_in_0 : decode cX8_in 0 = .ok (.lload_n 0, 1) := by decide +kernel
theorem dX8_in_1 : decode cX8_in 1 = .ok (.lload_n 2, 1) := by decide +kernel
theorem dX8_in_2 : decode cX8_in 2 = .ok (.lcmp, 1) := by decide +kernel
theorem dX8_in_3 : decode cX8_in 3 = .ok (.ifCond .lt 14, 3) := by decide +kernel
theorem dX8_in_6 : decode cX8_in 6 = .ok (.lload_n 0, 1) := by decide +kernel
theorem dX8_in_7 : decode cX8_in 7 = .ok (.lload 4, 2) := by decide +kernel
theorem dX8_in_9 : decode cX8_in 9 = .ok (.lcmp, 1) := by decide +kernel
theorem dX8_in_10 : decode cX8_in 10 = .ok (.ifCond .gt 7, 3) := by decide +kernel
theorem dX8_in_13 : decode cX8_in 13 = .ok (.iconst 1, 1) := by decide +kernel
theorem dX8_in_14 : decode cX8_in 14 = .ok (.goto 4, 3) := by decide +kernel
theorem dX8_in_17 : decode cX8_in 17 = .ok (.iconst 0, 1) := by decide +kernel
theorem dX8_in_18 : decode cX8_in 18 = .ok (.ireturn, 1) := by decide +kernel
theorem dX8_met_0 : decode cX8_met 0 = .ok (.aload_n 0, 1) := by decide +kernel
theorem dX8_met_1 : decode cX8_met 1 = .ok (.iload_n 1, 1) := by decide +kernel
theorem dX8_met_2 : decode cX8_met 2 = .ok (.putfield 57, 3) := by decide +kernel
theorem dX8_met_5 : decode cX8_met 5 = .ok (.bipush (-10), 2) := by decide +kernel
theorem dX8_met_7 : decode cX8_met 7 = .ok (.iload_n 1, 1) := by decide +kernel
theorem dX8_met_8 : decode cX8_met 8 = .ok (.isub, 1) := by decide +kernel
theorem dX8_met_9 : decode cX8_met 9 = .ok (.ireturn, 1) := by decide +kernel
theorem dX8_here_0 : decode cX8_here 0 = .ok (.aload_n 0, 1) := by decide +kernel
theorem dX8_here_1 : decode cX8_here 1 = .ok (.getfield 87, 3) := by decide +kernel
theorem dX8_here_4 : decode cX8_here 4 = .ok (.aload_n 0, 1) := by decide +kernel
theorem dX8_here_5 : decode cX8_here 5 = .ok (.getfield 25, 3) := by decide +kernel
theorem dX8_here_8 : decode cX8_here 8 = .ok (.iload_n 1, 1) := by decide +kernel
theorem dX8_here_9 : decode cX8_here 9 = .ok (.iaload, 1) := by decide +kernel
theorem dX8_here_10 : decode cX8_here 10 = .ok (.if_icmp .ge 20, 3) := by decide +kernel
theorem dX8_here_13 : decode cX8_here 13 = .ok (.aload_n 0, 1) := by decide +kernel
theorem dX8_here_14 : decode cX8_here 14 = .ok (.getfield 22, 3) := by decide +kernel
theorem dX8_here_17 : decode cX8_here 17 = .ok (.bipush 40, 2) := by decide +kernel
theorem dX8_here_19 : decode cX8_here 19 = .ok (.iload_n 1, 1) := by decide +kernel
theorem dX8_here_20 : decode cX8_here 20 = .ok (.imul, 1) := by decide +kernel
theorem dX8_here_21 : decode cX8_here 21 = .ok (.aload_n 0, 1) := by decide +kernel
theorem dX8_here_22 : decode cX8_here 22 = .ok (.getfield 87, 3) := by decide +kernel
theorem dX8_here_25 : decode cX8_here 25 = .ok (.iadd, 1) := by decide +kernel
theorem dX8_here_26 : decode cX8_here 26 = .ok (.iaload, 1) := by decide +kernel
theorem dX8_here_27 : decode cX8_here 27 = .ok (.goto 4, 3) := by decide +kernel
theorem dX8_here_30 : decode cX8_here 30 = .ok (.iconst (-1), 1) := by decide +kernel
theorem dX8_here_31 : decode cX8_here 31 = .ok (.ireturn, 1) := by decide +kernel
theorem dX8_bitOf_0 : decode cX8_bitOf 0 = .ok (.bipush 15, 2) := by decide +kernel
theorem dX8_bitOf_2 : decode cX8_bitOf 2 = .ok (.iconst 4, 1) := by decide +kernel
theorem dX8_bitOf_3 : decode cX8_bitOf 3 = .ok (.iload_n 0, 1) := by decide +kernel
theorem dX8_bitOf_4 : decode cX8_bitOf 4 = .ok (.imul, 1) := by decide +kernel
theorem dX8_bitOf_5 : decode cX8_bitOf 5 = .ok (.isub, 1) := by decide +kernel
theorem dX8_bitOf_6 : decode cX8_bitOf 6 = .ok (.iload_n 1, 1) := by decide +kernel
theorem dX8_bitOf_7 : decode cX8_bitOf 7 = .ok (.isub, 1) := by decide +kernel
theorem dX8_bitOf_8 : decode cX8_bitOf 8 = .ok (.ireturn, 1) := by decide +kernel
set_option maxRecDepth 20000 in
theorem ggX8_turnedOnce_X8_bitOf : GoodIn wsX8_turnedOnce wsX8_bitOf := goodIn_r _ [4] (by decide +kernel) (by decide +kernel)
set_option maxRecDepth 20000 in
theorem gX8_turnedOnce_X8_bitOf : GoodIn wsX8_turnedOnce (va_wsS RX8 124 yX8_bitOf wsX8_bitOf) := goodIn_app (goodIn_of _ (by decide +kernel)) ggX8_turnedOnce_X8_bitOf
theorem dX8_turnedOnce_0 : decode cX8_turnedOnce 0 = .ok (.iconst 0, 1) := by decide +kernel
theorem dX8_turnedOnce_1 : decode cX8_turnedOnce 1 = .ok (.istore_n 1, 1) := by decide +kernel
theorem dX8_turnedOnce_2 : decode cX8_turnedOnce 2 = .ok (.iconst 0, 1) := by decide +kernel
theorem dX8_turnedOnce_3 : decode cX8_turnedOnce 3 = .ok (.istore_n 2, 1) := by decide +kernel
theorem dX8_turnedOnce_4 : decode cX8_turnedOnce 4 = .ok (.iload_n 2, 1) := by decide +kernel
theorem dX8_turnedOnce_5 : decode cX8_turnedOnce 5 = .ok (.iconst 4, 1) := by decide +kernel
theorem dX8_turnedOnce_6 : decode cX8_turnedOnce 6 = .ok (.if_icmp .ge 42, 3) := by decide +kernel
theorem dX8_turnedOnce_9 : decode cX8_turnedOnce 9 = .ok (.iconst 0, 1) := by decide +kernel
theorem dX8_turnedOnce_10 : decode cX8_turnedOnce 10 = .ok (.istore_n 3, 1) := by decide +kernel
theorem dX8_turnedOnce_11 : decode cX8_turnedOnce 11 = .ok (.iload_n 3, 1) := by decide +kernel
theorem dX8_turnedOnce_12 : decode cX8_turnedOnce 12 = .ok (.iconst 4, 1) := by decide +kernel
theorem dX8_turnedOnce_13 : decode cX8_turnedOnce 13 = .ok (.if_icmp .ge 29, 3) := by decide +kernel
theorem dX8_turnedOnce_16 : decode cX8_turnedOnce 16 = .ok (.iload_n 1, 1) := by decide +kernel
theorem dX8_turnedOnce_17 : decode cX8_turnedOnce 17 = .ok (.iload_n 0, 1) := by decide +kernel
theorem dX8_turnedOnce_18 : decode cX8_turnedOnce 18 = .ok (.iload_n 2, 1) := by decide +kernel
theorem dX8_turnedOnce_19 : decode cX8_turnedOnce 19 = .ok (.iload_n 3, 1) := by decide +kernel
theorem dX8_turnedOnce_20 : decode cX8_turnedOnce 20 = .ok (.invokestatic 124, 3) := by decide +kernel
theorem dX8_turnedOnce_23 : decode cX8_turnedOnce 23 = .ok (.ishr, 1) := by decide +kernel
theorem dX8_turnedOnce_24 : decode cX8_turnedOnce 24 = .ok (.iconst 1, 1) := by decide +kernel
theorem dX8_turnedOnce_25 : decode cX8_turnedOnce 25 = .ok (.iand, 1) := by decide +kernel
theorem dX8_turnedOnce_26 : decode cX8_turnedOnce 26 = .ok (.iload_n 3, 1) := by decide +kernel
theorem dX8_turnedOnce_27 : decode cX8_turnedOnce 27 = .ok (.iconst 3, 1) := by decide +kernel
theorem dX8_turnedOnce_28 : decode cX8_turnedOnce 28 = .ok (.iload_n 2, 1) := by decide +kernel
theorem dX8_turnedOnce_29 : decode cX8_turnedOnce 29 = .ok (.isub, 1) := by decide +kernel
theorem dX8_turnedOnce_30 : decode cX8_turnedOnce 30 = .ok (.invokestatic 124, 3) := by decide +kernel
theorem dX8_turnedOnce_33 : decode cX8_turnedOnce 33 = .ok (.ishl, 1) := by decide +kernel
theorem dX8_turnedOnce_34 : decode cX8_turnedOnce 34 = .ok (.ior, 1) := by decide +kernel
theorem dX8_turnedOnce_35 : decode cX8_turnedOnce 35 = .ok (.istore_n 1, 1) := by decide +kernel
theorem dX8_turnedOnce_36 : decode cX8_turnedOnce 36 = .ok (.iinc 3 1, 3) := by decide +kernel
theorem dX8_turnedOnce_39 : decode cX8_turnedOnce 39 = .ok (.goto (-28), 3) := by decide +kernel
theorem dX8_turnedOnce_42 : decode cX8_turnedOnce 42 = .ok (.iinc 2 1, 3) := by decide +kernel
theorem dX8_turnedOnce_45 : decode cX8_turnedOnce 45 = .ok (.goto (-41), 3) := by decide +kernel
theorem dX8_turnedOnce_48 : decode cX8_turnedOnce 48 = .ok (.iload_n 1, 1) := by decide +kernel
theorem dX8_turnedOnce_49 : decode cX8_turnedOnce 49 = .ok (.ireturn, 1) := by decide +kernel
set_option maxRecDepth 100000 in
theorem r_X8_in_0 {X : Bn} (C : Cx X cX8_in 6 RX8 wsX8_in 0 0) {ws : va_W} (x0 : Int64) (x2 : Int64) (x4 : Int64) (h : ((x0 < x2) → (Ends X (some .boolean) (some (.int 0)) (ws))) ∧ (¬ x0 < x2 → (((x4 < x0) → (Ends X (some .boolean) (some (.int 0)) (ws))) ∧ (¬ x4 < x0 → (Ends X (some .boolean) (some (.int 1)) (ws)))))) : At X 6 (ws) 0 [(0, .long x0), (2, .long x2), (4, .long x4)] [] := by
  refine at_lload_n C dX8_in_0 rfl (j := 0) rfl ?_
  refine at_lload_n C dX8_in_1 rfl (j := 1) rfl ?_
  refine at_lif_lt C dX8_in_2 dX8_in_3 (tgt := 17) (by decide) (fun hc => ?_) (fun hc => ?_)
  · replace h := h.1 hc
    refine at_iconst C dX8_in_17 (v := 0) rfl ?_
    exact at_zret C dX8_in_18 rfl h
  · replace h := h.2 hc
    refine at_lload_n C dX8_in_6 rfl (j := 0) rfl ?_
    refine at_lload C dX8_in_7 (j := 2) rfl ?_
    refine at_lif_gt C dX8_in_9 dX8_in_10 (tgt := 17) (by decide) (fun hc => ?_) (fun hc => ?_)
    · replace h := h.1 hc
      refine at_iconst C dX8_in_17 (v := 0) rfl ?_
      exact at_zret C dX8_in_18 rfl h
    · replace h := h.2 hc
      refine at_iconst C dX8_in_13 (v := 1) rfl ?_
      refine at_goto C dX8_in_14 (tgt := 18) (by decide) ?_
      exact at_zret C dX8_in_18 rfl h
set_option maxRecDepth 100000 in
theorem r_X8_bitOf_0 {X : Bn} (C : Cx X cX8_bitOf 2 RX8 wsX8_bitOf 0 0) {ws : va_W} (x0 : Int32) (x1 : Int32) (h : Ends X (some .int) (some (.int ((15 - (4 * x0)) - x1))) (ws)) : At X 2 (ws) 0 [(0, .int x0), (1, .int x1)] [] := by
  refine at_bipush C dX8_bitOf_0 (v := 15) rfl ?_
  refine at_iconst C dX8_bitOf_2 (v := 4) rfl ?_
  refine at_iload_n C dX8_bitOf_3 rfl (j := 0) rfl ?_
  refine at_imul C dX8_bitOf_4 ?_
  refine at_isub C dX8_bitOf_5 ?_
  refine at_iload_n C dX8_bitOf_6 rfl (j := 1) rfl ?_
  refine at_isub C dX8_bitOf_7 ?_
  exact at_iret C dX8_bitOf_8 h
def f_X8_bitOf (x0 x1 : Int32) : Int32 := (15 - (4 * x0)) - x1
theorem c_X8_bitOf (l : Launch) (D : va_G) (E : Nat → ClassId) (a1 a2 : Nat) (x0 x1 : Int32) : Fn l D E a1 a2 yX8_bitOf wsX8_bitOf 0 0 [.int x0, .int x1] [] (some (.int (f_X8_bitOf x0 x1))) [] := by
  refine Fn.of (cc := cX8_bitOf) (maxL := 2) (ret := some .int) (own := RX8) (by decide) rfl rfl rfl (by decide) (fun X h1 h2 h3 h4 h5 C hE => ?_)
  exact r_X8_bitOf_0 C x0 x1 hE
set_option maxRecDepth 100000 in
theorem r_X8_turnedOnce_0 {X : Bn} (C : Cx X cX8_turnedOnce 4 RX8 wsX8_turnedOnce 1 21) {ws : va_W} (x0 : Int32) (h : At X 4 (ws) 4 [(0, .int x0), (1, .int 0), (2, .int 0)] []) : At X 4 (ws) 0 [(0, .int x0)] [] := by
  refine at_iconst C dX8_turnedOnce_0 (v := 0) rfl ?_
  refine at_istore_n C dX8_turnedOnce_1 rfl (by decide) (lv' := [(1, .int 0), (0, .int x0)]) rfl ?_
  refine at_iconst C dX8_turnedOnce_2 (v := 0) rfl ?_
  refine at_istore_n C dX8_turnedOnce_3 rfl (by decide) (lv' := [(2, .int 0), (1, .int 0), (0, .int x0)]) rfl ?_
  refine at_lv [2, 1, 0] rfl ?_
  exact h
set_option maxRecDepth 100000 in
theorem r_X8_turnedOnce_4 {X : Bn} (C : Cx X cX8_turnedOnce 4 RX8 wsX8_turnedOnce 1 21) {ws : va_W} (x0 : Int32) (x1 : Int32) (x2 : Int32) (h : ((4 ≤ x2) → (Ends X (some .int) (some (.int x1)) (ws))) ∧ (¬ 4 ≤ x2 → (At X 4 (ws) 11 [(0, .int x0), (1, .int x1), (2, .int x2), (3, .int 0)] []))) : At X 4 (ws) 4 [(0, .int x0), (1, .int x1), (2, .int x2)] [] := by
  refine at_iload_n C dX8_turnedOnce_4 rfl (j := 2) rfl ?_
  refine at_iconst C dX8_turnedOnce_5 (v := 4) rfl ?_
  refine at_icmp_ge C dX8_turnedOnce_6 (tgt := 48) (by decide) (fun hc => ?_) (fun hc => ?_)
  · replace h := h.1 hc
    refine at_iload_n C dX8_turnedOnce_48 rfl (j := 1) rfl ?_
    exact at_iret C dX8_turnedOnce_49 h
  · replace h := h.2 hc
    refine at_iconst C dX8_turnedOnce_9 (v := 0) rfl ?_
    refine at_istore_n C dX8_turnedOnce_10 rfl (by decide) (lv' := [(3, .int 0), (0, .int x0), (1, .int x1), (2, .int x2)]) rfl ?_
    refine at_lv [1, 2, 3, 0] rfl ?_
    exact h
set_option maxRecDepth 100000 in
theorem r_X8_turnedOnce_11 {X : Bn} (C : Cx X cX8_turnedOnce 4 RX8 wsX8_turnedOnce 1 21) {ws : va_W} (x0 : Int32) (x1 : Int32) (x2 : Int32) (x3 : Int32) (h : ((4 ≤ x3) → (At X 4 (ws) 4 [(0, .int x0), (1, .int x1), (2, .int (x2 + 1))] [])) ∧ (¬ 4 ≤ x3 → (At X 4 (ws) 11 [(0, .int x0), (1, .int (x1 ||| (ishl ((isar x0 (f_X8_bitOf x2 x3)) &&& 1) (f_X8_bitOf x3 (3 - x2))))), (2, .int x2), (3, .int (x3 + 1))] []))) : At X 4 (ws) 11 [(0, .int x0), (1, .int x1), (2, .int x2), (3, .int x3)] [] := by
  refine at_iload_n C dX8_turnedOnce_11 rfl (j := 3) rfl ?_
  refine at_iconst C dX8_turnedOnce_12 (v := 4) rfl ?_
  refine at_icmp_ge C dX8_turnedOnce_13 (tgt := 42) (by decide) (fun hc => ?_) (fun hc => ?_)
  · replace h := h.1 hc
    refine at_iinc C dX8_turnedOnce_42 (j := 2) (v := x2 + 1) rfl rfl (by decide) (lv' := [(2, .int (x2 + 1)), (0, .int x0), (1, .int x1), (3, .int x3)]) rfl ?_
    refine at_goto C dX8_turnedOnce_45 (tgt := 4) (by decide) ?_
    refine at_lv [1, 2, 0] rfl ?_
    exact h
  · replace h := h.2 hc
    refine at_iload_n C dX8_turnedOnce_16 rfl (j := 1) rfl ?_
    refine at_iload_n C dX8_turnedOnce_17 rfl (j := 0) rfl ?_
    refine at_iload_n C dX8_turnedOnce_18 rfl (j := 2) rfl ?_
    refine at_iload_n C dX8_turnedOnce_19 rfl (j := 3) rfl ?_
    refine at_cS0 C 2 (c_X8_bitOf X.l X.D X.E X.a1 X.a2 x2 x3) gX8_turnedOnce_X8_bitOf rfl (by decide +kernel) ⟨rfl, rfl⟩ rfl rfl rfl dX8_turnedOnce_20 ?_
    refine at_ishr C dX8_turnedOnce_23 ?_
    refine at_iconst C dX8_turnedOnce_24 (v := 1) rfl ?_
    refine at_iand C dX8_turnedOnce_25 ?_
    refine at_iload_n C dX8_turnedOnce_26 rfl (j := 3) rfl ?_
    refine at_iconst C dX8_turnedOnce_27 (v := 3) rfl ?_
    refine at_iload_n C dX8_turnedOnce_28 rfl (j := 2) rfl ?_
    refine at_isub C dX8_turnedOnce_29 ?_
    refine at_cS0 C 2 (c_X8_bitOf X.l X.D X.E X.a1 X.a2 x3 (3 - x2)) gX8_turnedOnce_X8_bitOf rfl (by decide +kernel) ⟨rfl, rfl⟩ rfl rfl rfl dX8_turnedOnce_30 ?_
    refine at_ishl C dX8_turnedOnce_33 ?_
    refine at_ior C dX8_turnedOnce_34 ?_
    refine at_istore_n C dX8_turnedOnce_35 rfl (by decide) (lv' := [(1, .int (x1 ||| (ishl ((isar x0 (f_X8_bitOf x2 x3)) &&& 1) (f_X8_bitOf x3 (3 - x2))))), (0, .int x0), (2, .int x2), (3, .int x3)]) rfl ?_
    refine at_iinc C dX8_turnedOnce_36 (j := 3) (v := x3 + 1) rfl rfl (by decide) (lv' := [(3, .int (x3 + 1)), (1, .int (x1 ||| (ishl ((isar x0 (f_X8_bitOf x2 x3)) &&& 1) (f_X8_bitOf x3 (3 - x2))))), (0, .int x0), (2, .int x2)]) rfl ?_
    refine at_goto C dX8_turnedOnce_39 (tgt := 11) (by decide) ?_
    refine at_lv [2, 1, 3, 0] rfl ?_
    exact h
theorem iw_X8_here_X8 : ∀ w ∈ u_ws RX8 TX8 18, w ∈ wsX8_here := by decide +kernel
theorem lk_X8_here_0 : Cond.fieldLink RX8 87 (TX8 7).1 (TX8 7).2.1 (TX8 7).2.2.1 ∈ wsX8_here := by decide +kernel
theorem lk_X8_here_1 : Cond.fieldLink RX8 25 (TX8 6).1 (TX8 6).2.1 (TX8 6).2.2.1 ∈ wsX8_here := by decide +kernel
theorem lk_X8_here_2 : Cond.fieldLink RX8 22 (TX8 5).1 (TX8 5).2.1 (TX8 5).2.2.1 ∈ wsX8_here := by decide +kernel
set_option maxRecDepth 100000 in
theorem r_X8_here_0 {X : Bn} (C : Cx X cX8_here 2 RX8 wsX8_here 0 0) (ad : Nat → Nat) (S : MS) (x1 : Int32) (h : vp_in x1 2 ∧ (((S.1 6 x1.toNatClampNeg ≤ S.1 7 0) → (Ends X (some .int) (some (.int (-1))) (mW X.E ad S))) ∧ (¬ S.1 6 x1.toNatClampNeg ≤ S.1 7 0 → (vp_in ((40 * x1) + (S.1 7 0)) 112 ∧ (Ends X (some .int) (some (.int (S.1 5 (((40 * x1) + (S.1 7 0)).toNatClampNeg)))) (mW X.E ad S)))))) : At X 2 (mW X.E ad S) 0 [(0, .ref (ad 0)), (1, .int x1)] [] := by
  refine at_aload_n C dX8_here_0 rfl (j := 0) rfl ?_
  refine at_get C (K := RX8) (T := TX8) (N := 18) (ci := 7) (v := .int (S.1 7 0)) iw_X8_here_X8 0 rfl rfl 7 (by decide) lk_X8_here_0 rfl dX8_here_1 ?_
  refine at_aload_n C dX8_here_4 rfl (j := 0) rfl ?_
  refine at_get C (K := RX8) (T := TX8) (N := 18) (ci := 7) (v := .ref (ad 6)) iw_X8_here_X8 0 rfl rfl 6 (by decide) lk_X8_here_1 rfl dX8_here_5 ?_
  refine at_iload_n C dX8_here_8 rfl (j := 1) rfl ?_
  refine at_iald C 6 rfl h.1 dX8_here_9 ?_
  replace h := h.2
  refine at_icmp_ge C dX8_here_10 (tgt := 30) (by decide) (fun hc => ?_) (fun hc => ?_)
  · replace h := h.1 hc
    refine at_iconst C dX8_here_30 (v := (-1)) rfl ?_
    exact at_iret C dX8_here_31 h
  · replace h := h.2 hc
    refine at_aload_n C dX8_here_13 rfl (j := 0) rfl ?_
    refine at_get C (K := RX8) (T := TX8) (N := 18) (ci := 7) (v := .ref (ad 5)) iw_X8_here_X8 0 rfl rfl 5 (by decide) lk_X8_here_2 rfl dX8_here_14 ?_
    refine at_bipush C dX8_here_17 (v := 40) rfl ?_
    refine at_iload_n C dX8_here_19 rfl (j := 1) rfl ?_
    refine at_imul C dX8_here_20 ?_
    refine at_aload_n C dX8_here_21 rfl (j := 0) rfl ?_
    refine at_get C (K := RX8) (T := TX8) (N := 18) (ci := 7) (v := .int (S.1 7 0)) iw_X8_here_X8 0 rfl rfl 7 (by decide) lk_X8_here_0 rfl dX8_here_22 ?_
    refine at_iadd C dX8_here_25 ?_
    refine at_iald C 5 rfl h.1 dX8_here_26 ?_
    replace h := h.2
    refine at_goto C dX8_here_27 (tgt := 31) (by decide) ?_
    exact at_iret C dX8_here_31 h
theorem iw_X8_met_X8 : ∀ w ∈ u_ws RX8 TX8 18, w ∈ wsX8_met := by decide +kernel
theorem lk_X8_met_0 : Cond.fieldLink RX8 57 (TX8 4).1 (TX8 4).2.1 (TX8 4).2.2.1 ∈ wsX8_met := by decide +kernel
set_option maxRecDepth 100000 in
theorem r_X8_met_0 {X : Bn} (C : Cx X cX8_met 2 RX8 wsX8_met 0 0) (ad : Nat → Nat) (S : MS) (x1 : Int32) (h : Ends X (some .int) (some (.int ((-10) - x1))) (mW X.E ad (pg S 4 0 x1))) : At X 2 (mW X.E ad S) 0 [(0, .ref (ad 0)), (1, .int x1)] [] := by
  refine at_aload_n C dX8_met_0 rfl (j := 0) rfl ?_
  refine at_iload_n C dX8_met_1 rfl (j := 1) rfl ?_
  refine at_put C (K := RX8) (T := TX8) (N := 18) (ci := 7) (ty := .int) iw_X8_met_X8 tyX8 tyX8_ok nmX8 0 rfl rfl 4 (by decide) lk_X8_met_0 rfl rfl rfl rfl (Nat.le_of_ble_eq_true rfl) (ws' := mW X.E ad (pg S 4 0 x1)) rfl dX8_met_2 ?_
  refine at_bipush C dX8_met_5 (v := (-10)) rfl ?_
  refine at_iload_n C dX8_met_7 rfl (j := 1) rfl ?_
  refine at_isub C dX8_met_8 ?_
  exact at_iret C dX8_met_9 h
