theorem dX8_in_0 : decode cX8_in 0 = .ok (.lload_n 0, 1) := by decide +kernel
theorem dX8_in_1 : decode cX8_in 1 = .ok (.lload_n 2, 1) := by decide +kernel
theorem dX8_in_2 : decode cX8_in 2 = .ok (.lcmp, 1) := by decide +kernel
theorem dX8_in_3 : decode cX8_in 3 = .ok (.ifCond .lt 14, 3) := by decide +kernel
theorem dX8_in_6 : decode cX8_in 6 = .ok (.lload_n 0, 1) := by decide +kernel
theorem dX8_in_7 : decode cX8_in 7 = .ok (.lload 4, 2) := by decide +kernel
theorem dX8_in_9 : decode cX8_in 9 = .ok (.lcmp, 1) := by decide +kernel
theorem dX8_in_10 : decode cX8_in 10 = .ok (.ifCond .gt 7, 3) := by decide +kernel
theorem dX8_in_13 : decode cX8_in 13 = .ok (.iconst 1, 1) := by decide +kernel
theorem dX8_in_14 : decode cX8_in 14 = .ok (.goto 4, 3) := by decide +kernel
theorem dX8_in_17 : decode cX8_in 17 = .ok (.iconst 0, 1) := by decide +kernel
theorem dX8_in_18 : decode cX8_in 18 = .ok (.ireturn, 1) := by decide +kernel
set_option maxRecDepth 100000 in
theorem r_X8_in_0 {X : Bn} (C : Cx X cX8_in 6 RX8 wsX8_in 0 0) {ws : va_W} (x0 : Int64) (x2 : Int64) (x4 : Int64) (h : Ends X (some .boolean) (some (.int (b2i (if x0 < x2 then false else (if x4 < x0 then false else true))))) (ws)) : At X 6 (ws) 0 [(0, .long x0), (2, .long x2), (4, .long x4)] [] := by
  refine at_lload_n C dX8_in_0 rfl (j := 0) rfl ?_
  refine at_lload_n C dX8_in_1 rfl (j := 1) rfl ?_
  have K : At X 6 (ws) 18 [] [.int (b2i (if x0 < x2 then false else (if x4 < x0 then false else true)))] := by
    exact at_zret C dX8_in_18 (b2i_nar _) h
  refine at_lif_lt C dX8_in_2 dX8_in_3 (tgt := 17) (by decide) (fun hc0 => ?_) (fun hc0 => ?_)
  · skip
    refine at_iconst C dX8_in_17 (v := 0) rfl ?_
    refine at_lv [] rfl ?_
    first | (simp only [if_pos hc0] at K; exact K) | exact K
  · skip
    refine at_lload_n C dX8_in_6 rfl (j := 0) rfl ?_
    refine at_lload C dX8_in_7 (j := 2) rfl ?_
    refine at_lif_gt C dX8_in_9 dX8_in_10 (tgt := 17) (by decide) (fun hc1 => ?_) (fun hc1 => ?_)
    · skip
      refine at_iconst C dX8_in_17 (v := 0) rfl ?_
      refine at_lv [] rfl ?_
      first | (simp only [if_neg hc0, if_pos hc1] at K; exact K) | exact K
    · skip
      refine at_iconst C dX8_in_13 (v := 1) rfl ?_
      refine at_goto C dX8_in_14 (tgt := 18) (by decide) ?_
      refine at_lv [] rfl ?_
      first | (simp only [if_neg hc0, if_neg hc1] at K; exact K) | exact K
def f_X8_in (x0 : Int64) (x2 : Int64) (x4 : Int64) : Bool := (if x0 < x2 then false else (if x4 < x0 then false else true))
set_option maxRecDepth 100000 in
theorem c_X8_in (l : Launch) (D : va_G) (E : Nat → ClassId) (a1 a2 : Nat) (x0 : Int64) (x2 : Int64) (x4 : Int64) : Fn l D E a1 a2 yX8_in wsX8_in 0 0 [.long x0, .long x2, .long x4] ([]) (some (.int (b2i (f_X8_in x0 x2 x4)))) ([]) := by
  refine Fn.of (cc := cX8_in) (maxL := 6) (ret := (some .boolean)) (own := RX8) (by decide) rfl rfl rfl (Nat.le_of_ble_eq_true rfl) (fun X h1 h2 h3 h4 h5 C hE => ?_)
  subst h1 h2 h3 h4 h5
  refine r_X8_in_0 C x0 x2 x4 ?_
  simp only [f_X8_in, b2i_t, b2i_f] at hE
  exact hE
theorem dX8_no_0 : decode cX8_no 0 = .ok (.ldc2_w 51, 3) := by decide +kernel
theorem dX8_no_3 : decode cX8_no 3 = .ok (.iload_n 0, 1) := by decide +kernel
theorem dX8_no_4 : decode cX8_no 4 = .ok (.i2l, 1) := by decide +kernel
theorem dX8_no_5 : decode cX8_no 5 = .ok (.lsub, 1) := by decide +kernel
theorem dX8_no_6 : decode cX8_no 6 = .ok (.lreturn, 1) := by decide +kernel
theorem lk_X8_no_0 : Cond.constantLong RX8 51 (-9223372036854775808) ∈ wsX8_no := by decide +kernel
set_option maxRecDepth 100000 in
theorem r_X8_no_0 {X : Bn} (C : Cx X cX8_no 1 RX8 wsX8_no 0 0) {ws : va_W} (x0 : Int32) (h : Ends X (some .long) (some (.long ((-9223372036854775808) - x0.toInt64))) (ws)) : At X 1 (ws) 0 [(0, .int x0)] [] := by
  refine at_ldc2 C lk_X8_no_0 dX8_no_0 ?_
  refine at_iload_n C dX8_no_3 rfl (j := 0) rfl ?_
  refine at_i2l C dX8_no_4 ?_
  refine at_lsub C dX8_no_5 ?_
  exact at_lret C dX8_no_6 h
def f_X8_no (x0 : Int32) : Int64 := (-9223372036854775808) - x0.toInt64
set_option maxRecDepth 100000 in
theorem c_X8_no (l : Launch) (D : va_G) (E : Nat → ClassId) (a1 a2 : Nat) (x0 : Int32) : Fn l D E a1 a2 yX8_no wsX8_no 0 0 [.int x0] ([]) (some (.long (f_X8_no x0))) ([]) := by
  refine Fn.of (cc := cX8_no) (maxL := 1) (ret := (some .long)) (own := RX8) (by decide) rfl rfl rfl (Nat.le_of_ble_eq_true rfl) (fun X h1 h2 h3 h4 h5 C hE => ?_)
  subst h1 h2 h3 h4 h5
  refine r_X8_no_0 C x0 ?_
  simp only [f_X8_no] at hE
  exact hE
set_option maxRecDepth 20000 in
theorem ggX8_isTwo_X8_in : GoodIn wsX8_isTwo wsX8_in := goodIn_r _ [4] (by decide +kernel) (by decide +kernel)
set_option maxRecDepth 20000 in
theorem gX8_isTwo_X8_in : GoodIn wsX8_isTwo (va_wsS RX8 53 yX8_in wsX8_in) := goodIn_app (goodIn_of _ (by decide +kernel)) ggX8_isTwo_X8_in
theorem dX8_isTwo_0 : decode cX8_isTwo 0 = .ok (.iload_n 0, 1) := by decide +kernel
theorem dX8_isTwo_1 : decode cX8_isTwo 1 = .ok (.i2l, 1) := by decide +kernel
theorem dX8_isTwo_2 : decode cX8_isTwo 2 = .ok (.lconst 0, 1) := by decide +kernel
theorem dX8_isTwo_3 : decode cX8_isTwo 3 = .ok (.lconst 1, 1) := by decide +kernel
theorem dX8_isTwo_4 : decode cX8_isTwo 4 = .ok (.invokestatic 53, 3) := by decide +kernel
theorem dX8_isTwo_7 : decode cX8_isTwo 7 = .ok (.ireturn, 1) := by decide +kernel
set_option maxRecDepth 100000 in
theorem r_X8_isTwo_0 {X : Bn} (C : Cx X cX8_isTwo 1 RX8 wsX8_isTwo 1 25) {ws : va_W} (x0 : Int32) (h : Ends X (some .boolean) (some (.int (b2i (f_X8_in x0.toInt64 (0 : Int64) (1 : Int64))))) (ws)) : At X 1 (ws) 0 [(0, .int x0)] [] := by
  refine at_iload_n C dX8_isTwo_0 rfl (j := 0) rfl ?_
  refine at_i2l C dX8_isTwo_1 ?_
  refine at_lconst C dX8_isTwo_2 (v := 0) rfl ?_
  refine at_lconst C dX8_isTwo_3 (v := 1) rfl ?_
  refine at_cS0 C 3 (c_X8_in X.l X.D X.E X.a1 X.a2 x0.toInt64 (0 : Int64) (1 : Int64)) gX8_isTwo_X8_in rfl (by decide +kernel) ⟨rfl, rfl⟩ rfl rfl rfl dX8_isTwo_4 ?_
  exact at_zret C dX8_isTwo_7 (b2i_nar _) h
def f_X8_isTwo (x0 : Int32) : Bool := (f_X8_in x0.toInt64 (0 : Int64) (1 : Int64))
set_option maxRecDepth 100000 in
theorem c_X8_isTwo (l : Launch) (D : va_G) (E : Nat → ClassId) (a1 a2 : Nat) (x0 : Int32) : Fn l D E a1 a2 yX8_isTwo wsX8_isTwo 1 25 [.int x0] ([]) (some (.int (b2i (f_X8_isTwo x0)))) ([]) := by
  refine Fn.of (cc := cX8_isTwo) (maxL := 1) (ret := (some .boolean)) (own := RX8) (by decide) rfl rfl rfl (Nat.le_of_ble_eq_true rfl) (fun X h1 h2 h3 h4 h5 C hE => ?_)
  subst h1 h2 h3 h4 h5
  refine r_X8_isTwo_0 C x0 ?_
  simp only [f_X8_isTwo, b2i_t, b2i_f] at hE
  exact hE
theorem dX8_isIn_0 : decode cX8_isIn 0 = .ok (.iload_n 0, 1) := by decide +kernel
theorem dX8_isIn_1 : decode cX8_isIn 1 = .ok (.iload_n 1, 1) := by decide +kernel
theorem dX8_isIn_2 : decode cX8_isIn 2 = .ok (.ishr, 1) := by decide +kernel
theorem dX8_isIn_3 : decode cX8_isIn 3 = .ok (.iconst 1, 1) := by decide +kernel
theorem dX8_isIn_4 : decode cX8_isIn 4 = .ok (.iand, 1) := by decide +kernel
theorem dX8_isIn_5 : decode cX8_isIn 5 = .ok (.iconst 1, 1) := by decide +kernel
theorem dX8_isIn_6 : decode cX8_isIn 6 = .ok (.if_icmp .ne 7, 3) := by decide +kernel
theorem dX8_isIn_9 : decode cX8_isIn 9 = .ok (.iconst 1, 1) := by decide +kernel
theorem dX8_isIn_10 : decode cX8_isIn 10 = .ok (.goto 4, 3) := by decide +kernel
theorem dX8_isIn_13 : decode cX8_isIn 13 = .ok (.iconst 0, 1) := by decide +kernel
theorem dX8_isIn_14 : decode cX8_isIn 14 = .ok (.ireturn, 1) := by decide +kernel
set_option maxRecDepth 100000 in
theorem r_X8_isIn_0 {X : Bn} (C : Cx X cX8_isIn 2 RX8 wsX8_isIn 0 0) {ws : va_W} (x0 : Int32) (x1 : Int32) (h : Ends X (some .boolean) (some (.int (b2i (if (isar x0 x1) &&& 1 = 1 then true else false)))) (ws)) : At X 2 (ws) 0 [(0, .int x0), (1, .int x1)] [] := by
  refine at_iload_n C dX8_isIn_0 rfl (j := 0) rfl ?_
  refine at_iload_n C dX8_isIn_1 rfl (j := 1) rfl ?_
  refine at_ishr C dX8_isIn_2 ?_
  refine at_iconst C dX8_isIn_3 (v := 1) rfl ?_
  refine at_iand C dX8_isIn_4 ?_
  refine at_iconst C dX8_isIn_5 (v := 1) rfl ?_
  have K : At X 2 (ws) 14 [] [.int (b2i (if (isar x0 x1) &&& 1 = 1 then true else false))] := by
    exact at_zret C dX8_isIn_14 (b2i_nar _) h
  refine at_icmp_ne C dX8_isIn_6 (tgt := 13) (by decide) (fun hc0 => ?_) (fun hc0 => ?_)
  · skip
    refine at_iconst C dX8_isIn_13 (v := 0) rfl ?_
    refine at_lv [] rfl ?_
    first | (simp only [if_neg hc0] at K; exact K) | exact K
  · skip
    refine at_iconst C dX8_isIn_9 (v := 1) rfl ?_
    refine at_goto C dX8_isIn_10 (tgt := 14) (by decide) ?_
    refine at_lv [] rfl ?_
    first | (simp only [if_pos hc0] at K; exact K) | exact K
def f_X8_isIn (x0 : Int32) (x1 : Int32) : Bool := (if (isar x0 x1) &&& 1 = 1 then true else false)
set_option maxRecDepth 100000 in
theorem c_X8_isIn (l : Launch) (D : va_G) (E : Nat → ClassId) (a1 a2 : Nat) (x0 : Int32) (x1 : Int32) : Fn l D E a1 a2 yX8_isIn wsX8_isIn 0 0 [.int x0, .int x1] ([]) (some (.int (b2i (f_X8_isIn x0 x1)))) ([]) := by
  refine Fn.of (cc := cX8_isIn) (maxL := 2) (ret := (some .boolean)) (own := RX8) (by decide) rfl rfl rfl (Nat.le_of_ble_eq_true rfl) (fun X h1 h2 h3 h4 h5 C hE => ?_)
  subst h1 h2 h3 h4 h5
  refine r_X8_isIn_0 C x0 x1 ?_
  simp only [f_X8_isIn, b2i_t, b2i_f] at hE
  exact hE
theorem dX8_met_0 : decode cX8_met 0 = .ok (.aload_n 0, 1) := by decide +kernel
theorem dX8_met_1 : decode cX8_met 1 = .ok (.iload_n 1, 1) := by decide +kernel
theorem dX8_met_2 : decode cX8_met 2 = .ok (.putfield 57, 3) := by decide +kernel
theorem dX8_met_5 : decode cX8_met 5 = .ok (.bipush (-10), 2) := by decide +kernel
theorem dX8_met_7 : decode cX8_met 7 = .ok (.iload_n 1, 1) := by decide +kernel
theorem dX8_met_8 : decode cX8_met 8 = .ok (.isub, 1) := by decide +kernel
theorem dX8_met_9 : decode cX8_met 9 = .ok (.ireturn, 1) := by decide +kernel
theorem iw_X8_met_X8 : ∀ w ∈ u_ws RX8 TX8 18, w ∈ wsX8_met := by decide +kernel
theorem lk_X8_met_0 : Cond.fieldLink RX8 57 (TX8 4).1 (TX8 4).2.1 (TX8 4).2.2.1 ∈ wsX8_met := by decide +kernel
set_option maxRecDepth 100000 in
theorem r_X8_met_0 {X : Bn} (C : Cx X cX8_met 2 RX8 wsX8_met 0 0) (ad : Nat → Nat) (S : MS) (x1 : Int32) (h : Ends X (some .int) (some (.int ((-10) - x1))) (mW X.E ad (pg S 4 0 x1))) : At X 2 (mW X.E ad S) 0 [(0, .ref (ad 0)), (1, .int x1)] [] := by
  refine at_aload_n C dX8_met_0 rfl (j := 0) rfl ?_
  refine at_iload_n C dX8_met_1 rfl (j := 1) rfl ?_
  refine at_put C (K := RX8) (T := TX8) (N := 18) (ci := 7) (ty := .int) iw_X8_met_X8 tyX8 tyX8_ok nmX8 0 mW_c0 rfl 4 (by decide) lk_X8_met_0 rfl rfl rfl rfl (Nat.le_of_ble_eq_true rfl) mW_f0_4 dX8_met_2 ?_
  refine at_bipush C dX8_met_5 (v := (-10)) rfl ?_
  refine at_iload_n C dX8_met_7 rfl (j := 1) rfl ?_
  refine at_isub C dX8_met_8 ?_
  exact at_iret C dX8_met_9 h
def f_X8_met (S : MS) (x1 : Int32) : Int32 := (-10) - x1
def s_X8_met (S : MS) (x1 : Int32) : MS := (pg S 4 0 x1)
set_option maxRecDepth 100000 in
theorem c_X8_met (l : Launch) (D : va_G) (E : Nat → ClassId) (a1 a2 : Nat) (ad : Nat → Nat) (S : MS) (x1 : Int32) : Fn l D E a1 a2 yX8_met wsX8_met 0 0 [.ref (ad 0), .int x1] (mW E ad S) (some (.int (f_X8_met S x1))) (mW E ad (s_X8_met S x1)) := by
  refine Fn.of (cc := cX8_met) (maxL := 2) (ret := (some .int)) (own := RX8) (by decide) rfl rfl (sameM _ _ _ _) (Nat.le_of_ble_eq_true rfl) (fun X h1 h2 h3 h4 h5 C hE => ?_)
  subst h1 h2 h3 h4 h5
  refine r_X8_met_0 C ad S x1 ?_
  simp only [f_X8_met, s_X8_met] at hE
  exact hE
set_option maxRecDepth 20000 in
theorem ggX8_isSheet_X8_in : GoodIn wsX8_isSheet wsX8_in := goodIn_r _ [5] (by decide +kernel) (by decide +kernel)
set_option maxRecDepth 20000 in
theorem gX8_isSheet_X8_in : GoodIn wsX8_isSheet (va_wsS RX8 53 yX8_in wsX8_in) := goodIn_app (goodIn_of _ (by decide +kernel)) ggX8_isSheet_X8_in
theorem dX8_isSheet_0 : decode cX8_isSheet 0 = .ok (.iload_n 0, 1) := by decide +kernel
theorem dX8_isSheet_1 : decode cX8_isSheet 1 = .ok (.i2l, 1) := by decide +kernel
theorem dX8_isSheet_2 : decode cX8_isSheet 2 = .ok (.lconst 0, 1) := by decide +kernel
theorem dX8_isSheet_3 : decode cX8_isSheet 3 = .ok (.ldc2_w 61, 3) := by decide +kernel
theorem dX8_isSheet_6 : decode cX8_isSheet 6 = .ok (.invokestatic 53, 3) := by decide +kernel
theorem dX8_isSheet_9 : decode cX8_isSheet 9 = .ok (.ireturn, 1) := by decide +kernel
theorem lk_X8_isSheet_0 : Cond.constantLong RX8 61 3 ∈ wsX8_isSheet := by decide +kernel
set_option maxRecDepth 100000 in
theorem r_X8_isSheet_0 {X : Bn} (C : Cx X cX8_isSheet 1 RX8 wsX8_isSheet 1 25) {ws : va_W} (x0 : Int32) (h : Ends X (some .boolean) (some (.int (b2i (f_X8_in x0.toInt64 (0 : Int64) (3 : Int64))))) (ws)) : At X 1 (ws) 0 [(0, .int x0)] [] := by
  refine at_iload_n C dX8_isSheet_0 rfl (j := 0) rfl ?_
  refine at_i2l C dX8_isSheet_1 ?_
  refine at_lconst C dX8_isSheet_2 (v := 0) rfl ?_
  refine at_ldc2 C lk_X8_isSheet_0 dX8_isSheet_3 ?_
  refine at_cS0 C 3 (c_X8_in X.l X.D X.E X.a1 X.a2 x0.toInt64 (0 : Int64) (3 : Int64)) gX8_isSheet_X8_in rfl (by decide +kernel) ⟨rfl, rfl⟩ rfl rfl rfl dX8_isSheet_6 ?_
  exact at_zret C dX8_isSheet_9 (b2i_nar _) h
def f_X8_isSheet (x0 : Int32) : Bool := (f_X8_in x0.toInt64 (0 : Int64) (3 : Int64))
set_option maxRecDepth 100000 in
theorem c_X8_isSheet (l : Launch) (D : va_G) (E : Nat → ClassId) (a1 a2 : Nat) (x0 : Int32) : Fn l D E a1 a2 yX8_isSheet wsX8_isSheet 1 25 [.int x0] ([]) (some (.int (b2i (f_X8_isSheet x0)))) ([]) := by
  refine Fn.of (cc := cX8_isSheet) (maxL := 1) (ret := (some .boolean)) (own := RX8) (by decide) rfl rfl rfl (Nat.le_of_ble_eq_true rfl) (fun X h1 h2 h3 h4 h5 C hE => ?_)
  subst h1 h2 h3 h4 h5
  refine r_X8_isSheet_0 C x0 ?_
  simp only [f_X8_isSheet, b2i_t, b2i_f] at hE
  exact hE
set_option maxRecDepth 20000 in
theorem ggX8_lose_X8_isSheet : GoodIn wsX8_lose wsX8_isSheet := goodIn_r _ [6, 7, 8, 9, 5, 10] (by decide +kernel) (by decide +kernel)
set_option maxRecDepth 20000 in
theorem gX8_lose_X8_isSheet : GoodIn wsX8_lose (va_wsS RX8 63 yX8_isSheet wsX8_isSheet) := goodIn_app (goodIn_of _ (by decide +kernel)) ggX8_lose_X8_isSheet
set_option maxRecDepth 20000 in
theorem ggX8_lose_X8_met : GoodIn wsX8_lose wsX8_met := goodIn_r _ [14, 15, 16, 17, 18, 19, 20, 21, 22, 23, 24, 25, 26, 27, 28, 29, 30, 31, 32, 33] (by decide +kernel) (by decide +kernel)
set_option maxRecDepth 20000 in
theorem gX8_lose_X8_met : GoodIn wsX8_lose (wsV RX8 69 RX8 yX8_met wsX8_met) := goodIn_app (goodIn_of _ (by decide +kernel)) ggX8_lose_X8_met
theorem dX8_lose_0 : decode cX8_lose 0 = .ok (.iload_n 1, 1) := by decide +kernel
theorem dX8_lose_1 : decode cX8_lose 1 = .ok (.invokestatic 63, 3) := by decide +kernel
theorem dX8_lose_4 : decode cX8_lose 4 = .ok (.ifCond .ne 6, 3) := by decide +kernel
theorem dX8_lose_7 : decode cX8_lose 7 = .ok (.bipush (-2), 2) := by decide +kernel
theorem dX8_lose_9 : decode cX8_lose 9 = .ok (.ireturn, 1) := by decide +kernel
theorem dX8_lose_10 : decode cX8_lose 10 = .ok (.aload_n 0, 1) := by decide +kernel
theorem dX8_lose_11 : decode cX8_lose 11 = .ok (.getfield 7, 3) := by decide +kernel
theorem dX8_lose_14 : decode cX8_lose 14 = .ok (.iload_n 1, 1) := by decide +kernel
theorem dX8_lose_15 : decode cX8_lose 15 = .ok (.iaload, 1) := by decide +kernel
theorem dX8_lose_16 : decode cX8_lose 16 = .ok (.ifCond .ge 9, 3) := by decide +kernel
theorem dX8_lose_19 : decode cX8_lose 19 = .ok (.aload_n 0, 1) := by decide +kernel
theorem dX8_lose_20 : decode cX8_lose 20 = .ok (.iconst 1, 1) := by decide +kernel
theorem dX8_lose_21 : decode cX8_lose 21 = .ok (.invokevirtual 69, 3) := by decide +kernel
theorem dX8_lose_24 : decode cX8_lose 24 = .ok (.ireturn, 1) := by decide +kernel
theorem dX8_lose_25 : decode cX8_lose 25 = .ok (.aload_n 0, 1) := by decide +kernel
theorem dX8_lose_26 : decode cX8_lose 26 = .ok (.getfield 7, 3) := by decide +kernel
theorem dX8_lose_29 : decode cX8_lose 29 = .ok (.iload_n 1, 1) := by decide +kernel
theorem dX8_lose_30 : decode cX8_lose 30 = .ok (.iconst (-1), 1) := by decide +kernel
theorem dX8_lose_31 : decode cX8_lose 31 = .ok (.iastore, 1) := by decide +kernel
theorem dX8_lose_32 : decode cX8_lose 32 = .ok (.aload_n 0, 1) := by decide +kernel
theorem dX8_lose_33 : decode cX8_lose 33 = .ok (.getfield 13, 3) := by decide +kernel
theorem dX8_lose_36 : decode cX8_lose 36 = .ok (.iload_n 1, 1) := by decide +kernel
theorem dX8_lose_37 : decode cX8_lose 37 = .ok (.iaload, 1) := by decide +kernel
theorem dX8_lose_38 : decode cX8_lose 38 = .ok (.ireturn, 1) := by decide +kernel
theorem iw_X8_lose_X8 : ∀ w ∈ u_ws RX8 TX8 18, w ∈ wsX8_lose := by decide +kernel
theorem lk_X8_lose_0 : Cond.fieldLink RX8 7 (TX8 0).1 (TX8 0).2.1 (TX8 0).2.2.1 ∈ wsX8_lose := by decide +kernel
theorem lk_X8_lose_1 : Cond.fieldLink RX8 13 (TX8 1).1 (TX8 1).2.1 (TX8 1).2.2.1 ∈ wsX8_lose := by decide +kernel
set_option maxRecDepth 100000 in
theorem r_X8_lose_0 {X : Bn} (C : Cx X cX8_lose 2 RX8 wsX8_lose 2 45) (ad : Nat → Nat) (S : MS) (x1 : Int32) (h : (((f_X8_isSheet x1) = true) → ((vp_in x1 4) ∧ (((0 ≤ S.1 0 x1.toNatClampNeg) → ((vp_in x1 4) ∧ ((vp_in x1 4) ∧ (Ends X (some .int) (some (.int (S.1 1 x1.toNatClampNeg))) (mW X.E ad (pg S 0 x1.toNatClampNeg (-1))))))) ∧ (¬ 0 ≤ S.1 0 x1.toNatClampNeg → (Ends X (some .int) (some (.int (f_X8_met S (1 : Int32)))) (mW X.E ad (s_X8_met S (1 : Int32)))))))) ∧ ((f_X8_isSheet x1) = false → (Ends X (some .int) (some (.int (-2))) (mW X.E ad S)))) : At X 2 (mW X.E ad S) 0 [(0, .ref (ad 0)), (1, .int x1)] [] := by
  refine at_iload_n C dX8_lose_0 rfl (j := 1) rfl ?_
  refine at_cS0 C 1 (c_X8_isSheet X.l X.D X.E X.a1 X.a2 x1) gX8_lose_X8_isSheet rfl (by decide +kernel) ⟨rfl, rfl⟩ rfl rfl rfl dX8_lose_1 ?_
  refine at_ifB_ne C dX8_lose_4 (tgt := 10) (by decide) (fun hc2 => ?_) (fun hc2 => ?_)
  · replace h := h.1 hc2
    refine at_aload_n C dX8_lose_10 rfl (j := 0) rfl ?_
    refine at_get C (K := RX8) (T := TX8) (N := 18) (ci := 7) (v := .ref (ad 1)) iw_X8_lose_X8 0 mW_c0 rfl 0 (by decide) lk_X8_lose_0 rfl dX8_lose_11 ?_
    refine at_iload_n C dX8_lose_14 rfl (j := 1) rfl ?_
    refine at_iald C 1 mW_c1 h.1 dX8_lose_15 ?_
    replace h := h.2
    refine at_if_ge C dX8_lose_16 (tgt := 25) (by decide) (fun hc3 => ?_) (fun hc3 => ?_)
    · replace h := h.1 hc3
      refine at_aload_n C dX8_lose_25 rfl (j := 0) rfl ?_
      refine at_get C (K := RX8) (T := TX8) (N := 18) (ci := 7) (v := .ref (ad 1)) iw_X8_lose_X8 0 mW_c0 rfl 0 (by decide) lk_X8_lose_0 rfl dX8_lose_26 ?_
      refine at_iload_n C dX8_lose_29 rfl (j := 1) rfl ?_
      refine at_iconst C dX8_lose_30 (v := (-1)) rfl ?_
      refine at_iast C 1 mW_c1 h.1 mW_s1 dX8_lose_31 ?_
      replace h := h.2
      refine at_aload_n C dX8_lose_32 rfl (j := 0) rfl ?_
      refine at_get C (K := RX8) (T := TX8) (N := 18) (ci := 7) (v := .ref (ad 2)) iw_X8_lose_X8 0 mW_c0 rfl 1 (by decide) lk_X8_lose_1 rfl dX8_lose_33 ?_
      refine at_iload_n C dX8_lose_36 rfl (j := 1) rfl ?_
      refine at_iald C 2 mW_c2 h.1 dX8_lose_37 ?_
      replace h := h.2
      refine at_topI (pg_o (by decide)) ?_
      exact at_iret C dX8_lose_38 h
    · replace h := h.2 hc3
      refine at_aload_n C dX8_lose_19 rfl (j := 0) rfl ?_
      refine at_iconst C dX8_lose_20 (v := 1) rfl ?_
      refine at_cV1 C 1 (c_X8_met X.l X.D X.E X.a1 X.a2 ad S (1 : Int32)) gX8_lose_X8_met rfl (by decide +kernel) ⟨rfl, rfl⟩ rfl rfl rfl 0 mW_c0 rfl dX8_lose_21 ?_
      exact at_iret C dX8_lose_24 h
  · replace h := h.2 hc2
    refine at_bipush C dX8_lose_7 (v := (-2)) rfl ?_
    exact at_iret C dX8_lose_9 h
def f_X8_lose (S : MS) (x1 : Int32) : Int32 := if (f_X8_isSheet x1) then (if 0 ≤ S.1 0 x1.toNatClampNeg then (S.1 1 x1.toNatClampNeg) else (f_X8_met S (1 : Int32))) else (-2)
def s_X8_lose (S : MS) (x1 : Int32) : MS := if (f_X8_isSheet x1) then (if 0 ≤ S.1 0 x1.toNatClampNeg then (pg S 0 x1.toNatClampNeg (-1)) else (s_X8_met S (1 : Int32))) else S
def p_X8_lose (S : MS) (x1 : Int32) : Prop := (((f_X8_isSheet x1) = true) → (vp_in x1 4) ∧ ((0 ≤ S.1 0 x1.toNatClampNeg) → (vp_in x1 4) ∧ (vp_in x1 4)))
set_option maxRecDepth 100000 in
theorem c_X8_lose (l : Launch) (D : va_G) (E : Nat → ClassId) (a1 a2 : Nat) (ad : Nat → Nat) (S : MS) (x1 : Int32) (hp : p_X8_lose S x1) : Fn l D E a1 a2 yX8_lose wsX8_lose 2 45 [.ref (ad 0), .int x1] (mW E ad S) (some (.int (f_X8_lose S x1))) (mW E ad (s_X8_lose S x1)) := by
  refine Fn.of (cc := cX8_lose) (maxL := 2) (ret := (some .int)) (own := RX8) (by decide) rfl rfl (sameM _ _ _ _) (Nat.le_of_ble_eq_true rfl) (fun X h1 h2 h3 h4 h5 C hE => ?_)
  subst h1 h2 h3 h4 h5
  refine r_X8_lose_0 C ad S x1 ?_
  refine ⟨fun hc0 => ?_, fun hc0 => ?_⟩
  · refine ⟨(hp hc0).1, ?_⟩
    refine ⟨fun hc1 => ?_, fun hc1 => ?_⟩
    · refine ⟨((hp hc0).2 hc1).1, ?_⟩
      refine ⟨((hp hc0).2 hc1).2, ?_⟩
      simp only [f_X8_lose, s_X8_lose, if_pos hc0, if_pos hc1] at hE
      exact hE
    · simp only [f_X8_lose, s_X8_lose, if_pos hc0, if_neg hc1] at hE
      exact hE
  · simp only [f_X8_lose, s_X8_lose, if_neg (show ¬ (f_X8_isSheet x1) = true by rw [hc0]; decide)] at hE
    exact hE
set_option maxRecDepth 20000 in
theorem ggX8_lacks_X8_met : GoodIn wsX8_lacks wsX8_met := goodIn_r _ [7, 8, 12, 13, 14, 15, 16, 17, 18, 19, 20, 21, 22, 23, 24, 25, 26, 27, 28, 29] (by decide +kernel) (by decide +kernel)
set_option maxRecDepth 20000 in
theorem gX8_lacks_X8_met : GoodIn wsX8_lacks (wsV RX8 69 RX8 yX8_met wsX8_met) := goodIn_app (goodIn_of _ (by decide +kernel)) ggX8_lacks_X8_met
set_option maxRecDepth 20000 in
theorem ggX8_lacks_X8_in : GoodIn wsX8_lacks wsX8_in := goodIn_r _ [11] (by decide +kernel) (by decide +kernel)
set_option maxRecDepth 20000 in
theorem gX8_lacks_X8_in : GoodIn wsX8_lacks (va_wsS RX8 53 yX8_in wsX8_in) := goodIn_app (goodIn_of _ (by decide +kernel)) ggX8_lacks_X8_in
theorem dX8_lacks_0 : decode cX8_lacks 0 = .ok (.aload_n 0, 1) := by decide +kernel
theorem dX8_lacks_1 : decode cX8_lacks 1 = .ok (.getfield 7, 3) := by decide +kernel
theorem dX8_lacks_4 : decode cX8_lacks 4 = .ok (.iload_n 1, 1) := by decide +kernel
theorem dX8_lacks_5 : decode cX8_lacks 5 = .ok (.iaload, 1) := by decide +kernel
theorem dX8_lacks_6 : decode cX8_lacks 6 = .ok (.ifCond .ge 9, 3) := by decide +kernel
theorem dX8_lacks_9 : decode cX8_lacks 9 = .ok (.aload_n 0, 1) := by decide +kernel
theorem dX8_lacks_10 : decode cX8_lacks 10 = .ok (.iconst 1, 1) := by decide +kernel
theorem dX8_lacks_11 : decode cX8_lacks 11 = .ok (.invokevirtual 69, 3) := by decide +kernel
theorem dX8_lacks_14 : decode cX8_lacks 14 = .ok (.ireturn, 1) := by decide +kernel
theorem dX8_lacks_15 : decode cX8_lacks 15 = .ok (.aload_n 0, 1) := by decide +kernel
theorem dX8_lacks_16 : decode cX8_lacks 16 = .ok (.getfield 7, 3) := by decide +kernel
theorem dX8_lacks_19 : decode cX8_lacks 19 = .ok (.iload_n 1, 1) := by decide +kernel
theorem dX8_lacks_20 : decode cX8_lacks 20 = .ok (.iaload, 1) := by decide +kernel
theorem dX8_lacks_21 : decode cX8_lacks 21 = .ok (.iload_n 2, 1) := by decide +kernel
theorem dX8_lacks_22 : decode cX8_lacks 22 = .ok (.if_icmp .eq 9, 3) := by decide +kernel
theorem dX8_lacks_25 : decode cX8_lacks 25 = .ok (.aload_n 0, 1) := by decide +kernel
theorem dX8_lacks_26 : decode cX8_lacks 26 = .ok (.iconst 3, 1) := by decide +kernel
theorem dX8_lacks_27 : decode cX8_lacks 27 = .ok (.invokevirtual 69, 3) := by decide +kernel
theorem dX8_lacks_30 : decode cX8_lacks 30 = .ok (.ireturn, 1) := by decide +kernel
theorem dX8_lacks_31 : decode cX8_lacks 31 = .ok (.iload_n 3, 1) := by decide +kernel
theorem dX8_lacks_32 : decode cX8_lacks 32 = .ok (.i2l, 1) := by decide +kernel
theorem dX8_lacks_33 : decode cX8_lacks 33 = .ok (.lconst 0, 1) := by decide +kernel
theorem dX8_lacks_34 : decode cX8_lacks 34 = .ok (.aload_n 0, 1) := by decide +kernel
theorem dX8_lacks_35 : decode cX8_lacks 35 = .ok (.getfield 13, 3) := by decide +kernel
theorem dX8_lacks_38 : decode cX8_lacks 38 = .ok (.iload_n 1, 1) := by decide +kernel
theorem dX8_lacks_39 : decode cX8_lacks 39 = .ok (.iaload, 1) := by decide +kernel
theorem dX8_lacks_40 : decode cX8_lacks 40 = .ok (.iconst 1, 1) := by decide +kernel
theorem dX8_lacks_41 : decode cX8_lacks 41 = .ok (.isub, 1) := by decide +kernel
theorem dX8_lacks_42 : decode cX8_lacks 42 = .ok (.i2l, 1) := by decide +kernel
theorem dX8_lacks_43 : decode cX8_lacks 43 = .ok (.invokestatic 53, 3) := by decide +kernel
theorem dX8_lacks_46 : decode cX8_lacks 46 = .ok (.ifCond .eq 7, 3) := by decide +kernel
theorem dX8_lacks_49 : decode cX8_lacks 49 = .ok (.iconst 0, 1) := by decide +kernel
theorem dX8_lacks_50 : decode cX8_lacks 50 = .ok (.goto 8, 3) := by decide +kernel
theorem dX8_lacks_53 : decode cX8_lacks 53 = .ok (.aload_n 0, 1) := by decide +kernel
theorem dX8_lacks_54 : decode cX8_lacks 54 = .ok (.iconst 2, 1) := by decide +kernel
theorem dX8_lacks_55 : decode cX8_lacks 55 = .ok (.invokevirtual 69, 3) := by decide +kernel
theorem dX8_lacks_58 : decode cX8_lacks 58 = .ok (.ireturn, 1) := by decide +kernel
theorem iw_X8_lacks_X8 : ∀ w ∈ u_ws RX8 TX8 18, w ∈ wsX8_lacks := by decide +kernel
theorem lk_X8_lacks_0 : Cond.fieldLink RX8 7 (TX8 0).1 (TX8 0).2.1 (TX8 0).2.2.1 ∈ wsX8_lacks := by decide +kernel
theorem lk_X8_lacks_1 : Cond.fieldLink RX8 13 (TX8 1).1 (TX8 1).2.1 (TX8 1).2.2.1 ∈ wsX8_lacks := by decide +kernel
set_option maxRecDepth 100000 in
theorem r_X8_lacks_0 {X : Bn} (C : Cx X cX8_lacks 4 RX8 wsX8_lacks 1 25) (ad : Nat → Nat) (S : MS) (x1 : Int32) (x2 : Int32) (x3 : Int32) (h : (vp_in x1 4) ∧ (((0 ≤ S.1 0 x1.toNatClampNeg) → ((vp_in x1 4) ∧ (((S.1 0 x1.toNatClampNeg = x2) → ((vp_in x1 4) ∧ (Ends X (some .int) (some (.int (if (f_X8_in x3.toInt64 (0 : Int64) (((S.1 1 x1.toNatClampNeg) - 1).toInt64)) then 0 else f_X8_met S (2 : Int32)))) (mW X.E ad (if (f_X8_in x3.toInt64 (0 : Int64) (((S.1 1 x1.toNatClampNeg) - 1).toInt64)) then S else (s_X8_met S (2 : Int32))))))) ∧ (¬ S.1 0 x1.toNatClampNeg = x2 → (Ends X (some .int) (some (.int (f_X8_met S (3 : Int32)))) (mW X.E ad (s_X8_met S (3 : Int32)))))))) ∧ (¬ 0 ≤ S.1 0 x1.toNatClampNeg → (Ends X (some .int) (some (.int (f_X8_met S (1 : Int32)))) (mW X.E ad (s_X8_met S (1 : Int32))))))) : At X 4 (mW X.E ad S) 0 [(0, .ref (ad 0)), (1, .int x1), (2, .int x2), (3, .int x3)] [] := by
  refine at_aload_n C dX8_lacks_0 rfl (j := 0) rfl ?_
  refine at_get C (K := RX8) (T := TX8) (N := 18) (ci := 7) (v := .ref (ad 1)) iw_X8_lacks_X8 0 mW_c0 rfl 0 (by decide) lk_X8_lacks_0 rfl dX8_lacks_1 ?_
  refine at_iload_n C dX8_lacks_4 rfl (j := 1) rfl ?_
  refine at_iald C 1 mW_c1 h.1 dX8_lacks_5 ?_
  replace h := h.2
  refine at_if_ge C dX8_lacks_6 (tgt := 15) (by decide) (fun hc2 => ?_) (fun hc2 => ?_)
  · replace h := h.1 hc2
    refine at_aload_n C dX8_lacks_15 rfl (j := 0) rfl ?_
    refine at_get C (K := RX8) (T := TX8) (N := 18) (ci := 7) (v := .ref (ad 1)) iw_X8_lacks_X8 0 mW_c0 rfl 0 (by decide) lk_X8_lacks_0 rfl dX8_lacks_16 ?_
    refine at_iload_n C dX8_lacks_19 rfl (j := 1) rfl ?_
    refine at_iald C 1 mW_c1 h.1 dX8_lacks_20 ?_
    replace h := h.2
    refine at_iload_n C dX8_lacks_21 rfl (j := 2) rfl ?_
    refine at_icmp_eq C dX8_lacks_22 (tgt := 31) (by decide) (fun hc3 => ?_) (fun hc3 => ?_)
    · replace h := h.1 hc3
      refine at_iload_n C dX8_lacks_31 rfl (j := 3) rfl ?_
      refine at_i2l C dX8_lacks_32 ?_
      refine at_lconst C dX8_lacks_33 (v := 0) rfl ?_
      refine at_aload_n C dX8_lacks_34 rfl (j := 0) rfl ?_
      refine at_get C (K := RX8) (T := TX8) (N := 18) (ci := 7) (v := .ref (ad 2)) iw_X8_lacks_X8 0 mW_c0 rfl 1 (by decide) lk_X8_lacks_1 rfl dX8_lacks_35 ?_
      refine at_iload_n C dX8_lacks_38 rfl (j := 1) rfl ?_
      refine at_iald C 2 mW_c2 h.1 dX8_lacks_39 ?_
      replace h := h.2
      refine at_iconst C dX8_lacks_40 (v := 1) rfl ?_
      refine at_isub C dX8_lacks_41 ?_
      refine at_i2l C dX8_lacks_42 ?_
      refine at_cS0 C 3 (c_X8_in X.l X.D X.E X.a1 X.a2 x3.toInt64 (0 : Int64) (((S.1 1 x1.toNatClampNeg) - 1).toInt64)) gX8_lacks_X8_in rfl (by decide +kernel) ⟨rfl, rfl⟩ rfl rfl rfl dX8_lacks_43 ?_
      have K : At X 4 (mW X.E ad (if (f_X8_in x3.toInt64 (0 : Int64) (((S.1 1 x1.toNatClampNeg) - 1).toInt64)) then S else (s_X8_met S (2 : Int32)))) 58 [] [.int (if (f_X8_in x3.toInt64 (0 : Int64) (((S.1 1 x1.toNatClampNeg) - 1).toInt64)) then 0 else f_X8_met S (2 : Int32))] := by
        exact at_iret C dX8_lacks_58 h
      refine at_ifB_eq C dX8_lacks_46 (tgt := 53) (by decide) (fun hc4 => ?_) (fun hc4 => ?_)
      · skip
        refine at_aload_n C dX8_lacks_53 rfl (j := 0) rfl ?_
        refine at_iconst C dX8_lacks_54 (v := 2) rfl ?_
        refine at_cV1 C 1 (c_X8_met X.l X.D X.E X.a1 X.a2 ad S (2 : Int32)) gX8_lacks_X8_met rfl (by decide +kernel) ⟨rfl, rfl⟩ rfl rfl rfl 0 mW_c0 rfl dX8_lacks_55 ?_
        refine at_lv [] rfl ?_
        first | (simp only [if_neg (show ¬ (f_X8_in x3.toInt64 (0 : Int64) (((S.1 1 x1.toNatClampNeg) - 1).toInt64)) = true by rw [hc4]; decide)] at K; exact K) | exact K
      · skip
        refine at_iconst C dX8_lacks_49 (v := 0) rfl ?_
        refine at_goto C dX8_lacks_50 (tgt := 58) (by decide) ?_
        refine at_lv [] rfl ?_
        first | (simp only [if_pos hc4] at K; exact K) | exact K
    · replace h := h.2 hc3
      refine at_aload_n C dX8_lacks_25 rfl (j := 0) rfl ?_
      refine at_iconst C dX8_lacks_26 (v := 3) rfl ?_
      refine at_cV1 C 1 (c_X8_met X.l X.D X.E X.a1 X.a2 ad S (3 : Int32)) gX8_lacks_X8_met rfl (by decide +kernel) ⟨rfl, rfl⟩ rfl rfl rfl 0 mW_c0 rfl dX8_lacks_27 ?_
      exact at_iret C dX8_lacks_30 h
  · replace h := h.2 hc2
    refine at_aload_n C dX8_lacks_9 rfl (j := 0) rfl ?_
    refine at_iconst C dX8_lacks_10 (v := 1) rfl ?_
    refine at_cV1 C 1 (c_X8_met X.l X.D X.E X.a1 X.a2 ad S (1 : Int32)) gX8_lacks_X8_met rfl (by decide +kernel) ⟨rfl, rfl⟩ rfl rfl rfl 0 mW_c0 rfl dX8_lacks_11 ?_
    exact at_iret C dX8_lacks_14 h
def f_X8_lacks (S : MS) (x1 : Int32) (x2 : Int32) (x3 : Int32) : Int32 := if 0 ≤ S.1 0 x1.toNatClampNeg then (if S.1 0 x1.toNatClampNeg = x2 then (if (f_X8_in x3.toInt64 (0 : Int64) (((S.1 1 x1.toNatClampNeg) - 1).toInt64)) then 0 else f_X8_met S (2 : Int32)) else (f_X8_met S (3 : Int32))) else (f_X8_met S (1 : Int32))
def s_X8_lacks (S : MS) (x1 : Int32) (x2 : Int32) (x3 : Int32) : MS := if 0 ≤ S.1 0 x1.toNatClampNeg then (if S.1 0 x1.toNatClampNeg = x2 then (if (f_X8_in x3.toInt64 (0 : Int64) (((S.1 1 x1.toNatClampNeg) - 1).toInt64)) then S else (s_X8_met S (2 : Int32))) else (s_X8_met S (3 : Int32))) else (s_X8_met S (1 : Int32))
def p_X8_lacks (S : MS) (x1 : Int32) (x2 : Int32) (x3 : Int32) : Prop := (vp_in x1 4) ∧ ((0 ≤ S.1 0 x1.toNatClampNeg) → (vp_in x1 4) ∧ ((S.1 0 x1.toNatClampNeg = x2) → (vp_in x1 4)))
set_option maxRecDepth 100000 in
theorem c_X8_lacks (l : Launch) (D : va_G) (E : Nat → ClassId) (a1 a2 : Nat) (ad : Nat → Nat) (S : MS) (x1 : Int32) (x2 : Int32) (x3 : Int32) (hp : p_X8_lacks S x1 x2 x3) : Fn l D E a1 a2 yX8_lacks wsX8_lacks 1 25 [.ref (ad 0), .int x1, .int x2, .int x3] (mW E ad S) (some (.int (f_X8_lacks S x1 x2 x3))) (mW E ad (s_X8_lacks S x1 x2 x3)) := by
  refine Fn.of (cc := cX8_lacks) (maxL := 4) (ret := (some .int)) (own := RX8) (by decide) rfl rfl (sameM _ _ _ _) (Nat.le_of_ble_eq_true rfl) (fun X h1 h2 h3 h4 h5 C hE => ?_)
  subst h1 h2 h3 h4 h5
  refine r_X8_lacks_0 C ad S x1 x2 x3 ?_
  refine ⟨hp.1, ?_⟩
  refine ⟨fun hc0 => ?_, fun hc0 => ?_⟩
  · refine ⟨(hp.2 hc0).1, ?_⟩
    refine ⟨fun hc1 => ?_, fun hc1 => ?_⟩
    · refine ⟨((hp.2 hc0).2 hc1), ?_⟩
      simp only [f_X8_lacks, s_X8_lacks, if_pos hc0, if_pos hc1] at hE
      exact hE
    · simp only [f_X8_lacks, s_X8_lacks, if_pos hc0, if_neg hc1] at hE
      exact hE
  · simp only [f_X8_lacks, s_X8_lacks, if_neg hc0] at hE
    exact hE
theorem dX8_cut_0 : decode cX8_cut 0 = .ok (.iload_n 0, 1) := by decide +kernel
theorem dX8_cut_1 : decode cX8_cut 1 = .ok (.ifCond .ne 8, 3) := by decide +kernel
theorem dX8_cut_4 : decode cX8_cut 4 = .ok (.iload_n 1, 1) := by decide +kernel
theorem dX8_cut_5 : decode cX8_cut 5 = .ok (.i2b, 1) := by decide +kernel
theorem dX8_cut_6 : decode cX8_cut 6 = .ok (.goto 14, 3) := by decide +kernel
theorem dX8_cut_9 : decode cX8_cut 9 = .ok (.iload_n 0, 1) := by decide +kernel
theorem dX8_cut_10 : decode cX8_cut 10 = .ok (.iconst 1, 1) := by decide +kernel
theorem dX8_cut_11 : decode cX8_cut 11 = .ok (.if_icmp .ne 8, 3) := by decide +kernel
theorem dX8_cut_14 : decode cX8_cut 14 = .ok (.iload_n 1, 1) := by decide +kernel
theorem dX8_cut_15 : decode cX8_cut 15 = .ok (.i2s, 1) := by decide +kernel
theorem dX8_cut_16 : decode cX8_cut 16 = .ok (.goto 4, 3) := by decide +kernel
theorem dX8_cut_19 : decode cX8_cut 19 = .ok (.iload_n 1, 1) := by decide +kernel
theorem dX8_cut_20 : decode cX8_cut 20 = .ok (.ireturn, 1) := by decide +kernel
set_option maxRecDepth 100000 in
theorem r_X8_cut_0 {X : Bn} (C : Cx X cX8_cut 2 RX8 wsX8_cut 0 0) {ws : va_W} (x0 : Int32) (x1 : Int32) (h : Ends X (some .int) (some (.int (if x0 = 0 then x1.toInt8.toInt32 else (if x0 = 1 then x1.toInt16.toInt32 else x1)))) (ws)) : At X 2 (ws) 0 [(0, .int x0), (1, .int x1)] [] := by
  refine at_iload_n C dX8_cut_0 rfl (j := 0) rfl ?_
  have K : At X 2 (ws) 20 [] [.int (if x0 = 0 then x1.toInt8.toInt32 else (if x0 = 1 then x1.toInt16.toInt32 else x1))] := by
    exact at_iret C dX8_cut_20 h
  refine at_if_ne C dX8_cut_1 (tgt := 9) (by decide) (fun hc0 => ?_) (fun hc0 => ?_)
  · skip
    refine at_iload_n C dX8_cut_9 rfl (j := 0) rfl ?_
    refine at_iconst C dX8_cut_10 (v := 1) rfl ?_
    refine at_icmp_ne C dX8_cut_11 (tgt := 19) (by decide) (fun hc1 => ?_) (fun hc1 => ?_)
    · skip
      refine at_iload_n C dX8_cut_19 rfl (j := 1) rfl ?_
      refine at_lv [] rfl ?_
      first | (simp only [if_neg hc0, if_neg hc1] at K; exact K) | exact K
    · skip
      refine at_iload_n C dX8_cut_14 rfl (j := 1) rfl ?_
      refine at_i2s C dX8_cut_15 ?_
      refine at_goto C dX8_cut_16 (tgt := 20) (by decide) ?_
      refine at_lv [] rfl ?_
      first | (simp only [if_neg hc0, if_pos hc1] at K; exact K) | exact K
  · skip
    refine at_iload_n C dX8_cut_4 rfl (j := 1) rfl ?_
    refine at_i2b C dX8_cut_5 ?_
    refine at_goto C dX8_cut_6 (tgt := 20) (by decide) ?_
    refine at_lv [] rfl ?_
    first | (simp only [if_pos hc0] at K; exact K) | exact K
def f_X8_cut (x0 : Int32) (x1 : Int32) : Int32 := (if x0 = 0 then x1.toInt8.toInt32 else (if x0 = 1 then x1.toInt16.toInt32 else x1))
set_option maxRecDepth 100000 in
theorem c_X8_cut (l : Launch) (D : va_G) (E : Nat → ClassId) (a1 a2 : Nat) (x0 : Int32) (x1 : Int32) : Fn l D E a1 a2 yX8_cut wsX8_cut 0 0 [.int x0, .int x1] ([]) (some (.int (f_X8_cut x0 x1))) ([]) := by
  refine Fn.of (cc := cX8_cut) (maxL := 2) (ret := (some .int)) (own := RX8) (by decide) rfl rfl rfl (Nat.le_of_ble_eq_true rfl) (fun X h1 h2 h3 h4 h5 C hE => ?_)
  subst h1 h2 h3 h4 h5
  refine r_X8_cut_0 C x0 x1 ?_
  simp only [f_X8_cut] at hE
  exact hE
set_option maxRecDepth 20000 in
theorem ggX8_lay_X8_isSheet : GoodIn wsX8_lay wsX8_isSheet := goodIn_r _ [6, 7, 8, 9, 5, 10] (by decide +kernel) (by decide +kernel)
set_option maxRecDepth 20000 in
theorem gX8_lay_X8_isSheet : GoodIn wsX8_lay (va_wsS RX8 63 yX8_isSheet wsX8_isSheet) := goodIn_app (goodIn_of _ (by decide +kernel)) ggX8_lay_X8_isSheet
set_option maxRecDepth 20000 in
theorem ggX8_lay_X8_in : GoodIn wsX8_lay wsX8_in := goodIn_r _ [10] (by decide +kernel) (by decide +kernel)
set_option maxRecDepth 20000 in
theorem gX8_lay_X8_in : GoodIn wsX8_lay (va_wsS RX8 53 yX8_in wsX8_in) := goodIn_app (goodIn_of _ (by decide +kernel)) ggX8_lay_X8_in
set_option maxRecDepth 20000 in
theorem ggX8_lay_X8_lacks : GoodIn wsX8_lay wsX8_lacks := goodIn_r _ [14, 15, 16, 17, 18, 19, 5, 20, 21, 8, 9, 10, 25, 26, 27, 28, 29, 30, 31, 32, 33, 34, 35, 36, 37, 38, 39, 40, 41, 42] (by decide +kernel) (by decide +kernel)
set_option maxRecDepth 20000 in
theorem gX8_lay_X8_lacks : GoodIn wsX8_lay (wsV RX8 73 RX8 yX8_lacks wsX8_lacks) := goodIn_app (goodIn_of _ (by decide +kernel)) ggX8_lay_X8_lacks
set_option maxRecDepth 20000 in
theorem ggX8_lay_X8_cut : GoodIn wsX8_lay wsX8_cut := goodIn_r _ [24] (by decide +kernel) (by decide +kernel)
set_option maxRecDepth 20000 in
theorem gX8_lay_X8_cut : GoodIn wsX8_lay (va_wsS RX8 77 yX8_cut wsX8_cut) := goodIn_app (goodIn_of _ (by decide +kernel)) ggX8_lay_X8_cut
theorem dX8_lay_0 : decode cX8_lay 0 = .ok (.iload_n 1, 1) := by decide +kernel
theorem dX8_lay_1 : decode cX8_lay 1 = .ok (.invokestatic 63, 3) := by decide +kernel
theorem dX8_lay_4 : decode cX8_lay 4 = .ok (.ifCond .eq 15, 3) := by decide +kernel
theorem dX8_lay_7 : decode cX8_lay 7 = .ok (.iload_n 2, 1) := by decide +kernel
theorem dX8_lay_8 : decode cX8_lay 8 = .ok (.i2l, 1) := by decide +kernel
theorem dX8_lay_9 : decode cX8_lay 9 = .ok (.lconst 0, 1) := by decide +kernel
theorem dX8_lay_10 : decode cX8_lay 10 = .ok (.ldc2_w 67, 3) := by decide +kernel
theorem dX8_lay_13 : decode cX8_lay 13 = .ok (.invokestatic 53, 3) := by decide +kernel
theorem dX8_lay_16 : decode cX8_lay 16 = .ok (.ifCond .ne 6, 3) := by decide +kernel
theorem dX8_lay_19 : decode cX8_lay 19 = .ok (.bipush (-2), 2) := by decide +kernel
theorem dX8_lay_21 : decode cX8_lay 21 = .ok (.ireturn, 1) := by decide +kernel
theorem dX8_lay_22 : decode cX8_lay 22 = .ok (.aload_n 0, 1) := by decide +kernel
theorem dX8_lay_23 : decode cX8_lay 23 = .ok (.iload_n 1, 1) := by decide +kernel
theorem dX8_lay_24 : decode cX8_lay 24 = .ok (.iload_n 2, 1) := by decide +kernel
theorem dX8_lay_25 : decode cX8_lay 25 = .ok (.iload_n 3, 1) := by decide +kernel
theorem dX8_lay_26 : decode cX8_lay 26 = .ok (.invokevirtual 73, 3) := by decide +kernel
theorem dX8_lay_29 : decode cX8_lay 29 = .ok (.istore 5, 2) := by decide +kernel
theorem dX8_lay_31 : decode cX8_lay 31 = .ok (.iload 5, 2) := by decide +kernel
theorem dX8_lay_33 : decode cX8_lay 33 = .ok (.ifCond .eq 6, 3) := by decide +kernel
theorem dX8_lay_36 : decode cX8_lay 36 = .ok (.iload 5, 2) := by decide +kernel
theorem dX8_lay_38 : decode cX8_lay 38 = .ok (.ireturn, 1) := by decide +kernel
theorem dX8_lay_39 : decode cX8_lay 39 = .ok (.aload_n 0, 1) := by decide +kernel
theorem dX8_lay_40 : decode cX8_lay 40 = .ok (.getfield 16, 3) := by decide +kernel
theorem dX8_lay_43 : decode cX8_lay 43 = .ok (.bipush 64, 2) := by decide +kernel
theorem dX8_lay_45 : decode cX8_lay 45 = .ok (.iload_n 1, 1) := by decide +kernel
theorem dX8_lay_46 : decode cX8_lay 46 = .ok (.imul, 1) := by decide +kernel
theorem dX8_lay_47 : decode cX8_lay 47 = .ok (.iload_n 3, 1) := by decide +kernel
theorem dX8_lay_48 : decode cX8_lay 48 = .ok (.iadd, 1) := by decide +kernel
theorem dX8_lay_49 : decode cX8_lay 49 = .ok (.iload_n 2, 1) := by decide +kernel
theorem dX8_lay_50 : decode cX8_lay 50 = .ok (.iload 4, 2) := by decide +kernel
theorem dX8_lay_52 : decode cX8_lay 52 = .ok (.invokestatic 77, 3) := by decide +kernel
theorem dX8_lay_55 : decode cX8_lay 55 = .ok (.iastore, 1) := by decide +kernel
theorem dX8_lay_56 : decode cX8_lay 56 = .ok (.iconst 1, 1) := by decide +kernel
theorem dX8_lay_57 : decode cX8_lay 57 = .ok (.ireturn, 1) := by decide +kernel
theorem iw_X8_lay_X8 : ∀ w ∈ u_ws RX8 TX8 18, w ∈ wsX8_lay := by decide +kernel
theorem lk_X8_lay_0 : Cond.constantLong RX8 67 2 ∈ wsX8_lay := by decide +kernel
theorem lk_X8_lay_1 : Cond.fieldLink RX8 16 (TX8 2).1 (TX8 2).2.1 (TX8 2).2.2.1 ∈ wsX8_lay := by decide +kernel
set_option maxRecDepth 100000 in
theorem r_X8_lay_0 {X : Bn} (C : Cx X cX8_lay 6 RX8 wsX8_lay 2 48) (ad : Nat → Nat) (S : MS) (x1 : Int32) (x2 : Int32) (x3 : Int32) (x4 : Int32) (h : (((f_X8_isSheet x1) = true) → ((((f_X8_in x2.toInt64 (0 : Int64) (2 : Int64)) = true) → ((p_X8_lacks S x1 x2 x3) ∧ (((f_X8_lacks S x1 x2 x3 = 0) → ((vp_in ((64 * x1) + x3) 256) ∧ (Ends X (some .int) (some (.int 1)) (mW X.E ad (pg (s_X8_lacks S x1 x2 x3) 2 (((64 * x1) + x3).toNatClampNeg) (f_X8_cut x2 x4)))))) ∧ (¬ f_X8_lacks S x1 x2 x3 = 0 → (Ends X (some .int) (some (.int (f_X8_lacks S x1 x2 x3))) (mW X.E ad (s_X8_lacks S x1 x2 x3))))))) ∧ ((f_X8_in x2.toInt64 (0 : Int64) (2 : Int64)) = false → (Ends X (some .int) (some (.int (-2))) (mW X.E ad S))))) ∧ ((f_X8_isSheet x1) = false → (Ends X (some .int) (some (.int (-2))) (mW X.E ad S)))) : At X 6 (mW X.E ad S) 0 [(0, .ref (ad 0)), (1, .int x1), (2, .int x2), (3, .int x3), (4, .int x4)] [] := by
  refine at_iload_n C dX8_lay_0 rfl (j := 1) rfl ?_
  refine at_cS0 C 1 (c_X8_isSheet X.l X.D X.E X.a1 X.a2 x1) gX8_lay_X8_isSheet rfl (by decide +kernel) ⟨rfl, rfl⟩ rfl rfl rfl dX8_lay_1 ?_
  refine at_ifB_eq C dX8_lay_4 (tgt := 19) (by decide) (fun hc3 => ?_) (fun hc3 => ?_)
  · replace h := h.2 hc3
    refine at_bipush C dX8_lay_19 (v := (-2)) rfl ?_
    exact at_iret C dX8_lay_21 h
  · replace h := h.1 hc3
    refine at_iload_n C dX8_lay_7 rfl (j := 2) rfl ?_
    refine at_i2l C dX8_lay_8 ?_
    refine at_lconst C dX8_lay_9 (v := 0) rfl ?_
    refine at_ldc2 C lk_X8_lay_0 dX8_lay_10 ?_
    refine at_cS0 C 3 (c_X8_in X.l X.D X.E X.a1 X.a2 x2.toInt64 (0 : Int64) (2 : Int64)) gX8_lay_X8_in rfl (by decide +kernel) ⟨rfl, rfl⟩ rfl rfl rfl dX8_lay_13 ?_
    refine at_ifB_ne C dX8_lay_16 (tgt := 22) (by decide) (fun hc4 => ?_) (fun hc4 => ?_)
    · replace h := h.1 hc4
      refine at_aload_n C dX8_lay_22 rfl (j := 0) rfl ?_
      refine at_iload_n C dX8_lay_23 rfl (j := 1) rfl ?_
      refine at_iload_n C dX8_lay_24 rfl (j := 2) rfl ?_
      refine at_iload_n C dX8_lay_25 rfl (j := 3) rfl ?_
      refine at_cV1 C 3 (c_X8_lacks X.l X.D X.E X.a1 X.a2 ad S x1 x2 x3 h.1) gX8_lay_X8_lacks rfl (by decide +kernel) ⟨rfl, rfl⟩ rfl rfl rfl 0 mW_c0 rfl dX8_lay_26 ?_
      replace h := h.2
      refine at_istore C dX8_lay_29 (by decide) (lv' := [(5, .int (f_X8_lacks S x1 x2 x3)), (0, .ref (ad 0)), (1, .int x1), (2, .int x2), (3, .int x3), (4, .int x4)]) rfl ?_
      refine at_iload C dX8_lay_31 (j := 0) rfl ?_
      refine at_if_eq C dX8_lay_33 (tgt := 39) (by decide) (fun hc5 => ?_) (fun hc5 => ?_)
      · replace h := h.1 hc5
        refine at_aload_n C dX8_lay_39 rfl (j := 1) rfl ?_
        refine at_get C (K := RX8) (T := TX8) (N := 18) (ci := 7) (v := .ref (ad 3)) iw_X8_lay_X8 0 mW_c0 rfl 2 (by decide) lk_X8_lay_1 rfl dX8_lay_40 ?_
        refine at_bipush C dX8_lay_43 (v := 64) rfl ?_
        refine at_iload_n C dX8_lay_45 rfl (j := 2) rfl ?_
        refine at_imul C dX8_lay_46 ?_
        refine at_iload_n C dX8_lay_47 rfl (j := 4) rfl ?_
        refine at_iadd C dX8_lay_48 ?_
        refine at_iload_n C dX8_lay_49 rfl (j := 3) rfl ?_
        refine at_iload C dX8_lay_50 (j := 5) rfl ?_
        refine at_cS0 C 2 (c_X8_cut X.l X.D X.E X.a1 X.a2 x2 x4) gX8_lay_X8_cut rfl (by decide +kernel) ⟨rfl, rfl⟩ rfl rfl rfl dX8_lay_52 ?_
        refine at_iast C 3 mW_c3 h.1 mW_s3 dX8_lay_55 ?_
        replace h := h.2
        refine at_iconst C dX8_lay_56 (v := 1) rfl ?_
        exact at_iret C dX8_lay_57 h
      · replace h := h.2 hc5
        refine at_iload C dX8_lay_36 (j := 0) rfl ?_
        exact at_iret C dX8_lay_38 h
    · replace h := h.2 hc4
      refine at_bipush C dX8_lay_19 (v := (-2)) rfl ?_
      exact at_iret C dX8_lay_21 h
def f_X8_lay (S : MS) (x1 : Int32) (x2 : Int32) (x3 : Int32) (x4 : Int32) : Int32 := if (f_X8_isSheet x1) then (if (f_X8_in x2.toInt64 (0 : Int64) (2 : Int64)) then (if f_X8_lacks S x1 x2 x3 = 0 then 1 else (f_X8_lacks S x1 x2 x3)) else (-2)) else (-2)
def s_X8_lay (S : MS) (x1 : Int32) (x2 : Int32) (x3 : Int32) (x4 : Int32) : MS := if (f_X8_isSheet x1) then (if (f_X8_in x2.toInt64 (0 : Int64) (2 : Int64)) then (if f_X8_lacks S x1 x2 x3 = 0 then (pg (s_X8_lacks S x1 x2 x3) 2 (((64 * x1) + x3).toNatClampNeg) (f_X8_cut x2 x4)) else (s_X8_lacks S x1 x2 x3)) else S) else S
def p_X8_lay (S : MS) (x1 : Int32) (x2 : Int32) (x3 : Int32) (x4 : Int32) : Prop := (((f_X8_isSheet x1) = true) → (((f_X8_in x2.toInt64 (0 : Int64) (2 : Int64)) = true) → (p_X8_lacks S x1 x2 x3) ∧ ((f_X8_lacks S x1 x2 x3 = 0) → (vp_in ((64 * x1) + x3) 256))))
set_option maxRecDepth 100000 in
theorem c_X8_lay (l : Launch) (D : va_G) (E : Nat → ClassId) (a1 a2 : Nat) (ad : Nat → Nat) (S : MS) (x1 : Int32) (x2 : Int32) (x3 : Int32) (x4 : Int32) (hp : p_X8_lay S x1 x2 x3 x4) : Fn l D E a1 a2 yX8_lay wsX8_lay 2 48 [.ref (ad 0), .int x1, .int x2, .int x3, .int x4] (mW E ad S) (some (.int (f_X8_lay S x1 x2 x3 x4))) (mW E ad (s_X8_lay S x1 x2 x3 x4)) := by
  refine Fn.of (cc := cX8_lay) (maxL := 6) (ret := (some .int)) (own := RX8) (by decide) rfl rfl (sameM _ _ _ _) (Nat.le_of_ble_eq_true rfl) (fun X h1 h2 h3 h4 h5 C hE => ?_)
  subst h1 h2 h3 h4 h5
  refine r_X8_lay_0 C ad S x1 x2 x3 x4 ?_
  refine ⟨fun hc0 => ?_, fun hc0 => ?_⟩
  · refine ⟨fun hc1 => ?_, fun hc1 => ?_⟩
    · refine ⟨((hp hc0) hc1).1, ?_⟩
      refine ⟨fun hc2 => ?_, fun hc2 => ?_⟩
      · refine ⟨(((hp hc0) hc1).2 hc2), ?_⟩
        simp only [f_X8_lay, s_X8_lay, if_pos hc0, if_pos hc1, if_pos hc2] at hE
        exact hE
      · simp only [f_X8_lay, s_X8_lay, if_pos hc0, if_pos hc1, if_neg hc2] at hE
        exact hE
    · simp only [f_X8_lay, s_X8_lay, if_pos hc0, if_neg (show ¬ (f_X8_in x2.toInt64 (0 : Int64) (2 : Int64)) = true by rw [hc1]; decide)] at hE
      exact hE
  · simp only [f_X8_lay, s_X8_lay, if_neg (show ¬ (f_X8_isSheet x1) = true by rw [hc0]; decide)] at hE
    exact hE
set_option maxRecDepth 20000 in
theorem ggX8_get_X8_isSheet : GoodIn wsX8_get wsX8_isSheet := goodIn_r _ [7, 8, 9, 10, 6, 11] (by decide +kernel) (by decide +kernel)
set_option maxRecDepth 20000 in
theorem gX8_get_X8_isSheet : GoodIn wsX8_get (va_wsS RX8 63 yX8_isSheet wsX8_isSheet) := goodIn_app (goodIn_of _ (by decide +kernel)) ggX8_get_X8_isSheet
set_option maxRecDepth 20000 in
theorem ggX8_get_X8_in : GoodIn wsX8_get wsX8_in := goodIn_r _ [11] (by decide +kernel) (by decide +kernel)
set_option maxRecDepth 20000 in
theorem gX8_get_X8_in : GoodIn wsX8_get (va_wsS RX8 53 yX8_in wsX8_in) := goodIn_app (goodIn_of _ (by decide +kernel)) ggX8_get_X8_in
set_option maxRecDepth 20000 in
theorem ggX8_get_X8_lacks : GoodIn wsX8_get wsX8_lacks := goodIn_r _ [15, 16, 17, 18, 19, 20, 6, 21, 22, 9, 10, 11, 23, 24, 25, 26, 27, 28, 29, 30, 31, 32, 33, 34, 35, 36, 37, 38, 39, 40] (by decide +kernel) (by decide +kernel)
set_option maxRecDepth 20000 in
theorem gX8_get_X8_lacks : GoodIn wsX8_get (wsV RX8 73 RX8 yX8_lacks wsX8_lacks) := goodIn_app (goodIn_of _ (by decide +kernel)) ggX8_get_X8_lacks
theorem dX8_get_0 : decode cX8_get 0 = .ok (.iload_n 1, 1) := by decide +kernel
theorem dX8_get_1 : decode cX8_get 1 = .ok (.invokestatic 63, 3) := by decide +kernel
theorem dX8_get_4 : decode cX8_get 4 = .ok (.ifCond .eq 25, 3) := by decide +kernel
theorem dX8_get_7 : decode cX8_get 7 = .ok (.iload_n 2, 1) := by decide +kernel
theorem dX8_get_8 : decode cX8_get 8 = .ok (.i2l, 1) := by decide +kernel
theorem dX8_get_9 : decode cX8_get 9 = .ok (.lconst 0, 1) := by decide +kernel
theorem dX8_get_10 : decode cX8_get 10 = .ok (.ldc2_w 67, 3) := by decide +kernel
theorem dX8_get_13 : decode cX8_get 13 = .ok (.invokestatic 53, 3) := by decide +kernel
theorem dX8_get_16 : decode cX8_get 16 = .ok (.ifCond .eq 13, 3) := by decide +kernel
theorem dX8_get_19 : decode cX8_get 19 = .ok (.aload_n 0, 1) := by decide +kernel
theorem dX8_get_20 : decode cX8_get 20 = .ok (.iload_n 1, 1) := by decide +kernel
theorem dX8_get_21 : decode cX8_get 21 = .ok (.iload_n 2, 1) := by decide +kernel
theorem dX8_get_22 : decode cX8_get 22 = .ok (.iload_n 3, 1) := by decide +kernel
theorem dX8_get_23 : decode cX8_get 23 = .ok (.invokevirtual 73, 3) := by decide +kernel
theorem dX8_get_26 : decode cX8_get 26 = .ok (.ifCond .eq 6, 3) := by decide +kernel
theorem dX8_get_29 : decode cX8_get 29 = .ok (.ldc 81, 2) := by decide +kernel
theorem dX8_get_31 : decode cX8_get 31 = .ok (.ireturn, 1) := by decide +kernel
theorem dX8_get_32 : decode cX8_get 32 = .ok (.aload_n 0, 1) := by decide +kernel
theorem dX8_get_33 : decode cX8_get 33 = .ok (.getfield 16, 3) := by decide +kernel
theorem dX8_get_36 : decode cX8_get 36 = .ok (.bipush 64, 2) := by decide +kernel
theorem dX8_get_38 : decode cX8_get 38 = .ok (.iload_n 1, 1) := by decide +kernel
theorem dX8_get_39 : decode cX8_get 39 = .ok (.imul, 1) := by decide +kernel
theorem dX8_get_40 : decode cX8_get 40 = .ok (.iload_n 3, 1) := by decide +kernel
theorem dX8_get_41 : decode cX8_get 41 = .ok (.iadd, 1) := by decide +kernel
theorem dX8_get_42 : decode cX8_get 42 = .ok (.iaload, 1) := by decide +kernel
theorem dX8_get_43 : decode cX8_get 43 = .ok (.ireturn, 1) := by decide +kernel
theorem iw_X8_get_X8 : ∀ w ∈ u_ws RX8 TX8 18, w ∈ wsX8_get := by decide +kernel
theorem lk_X8_get_0 : Cond.constant RX8 81 (-2147483648) ∈ wsX8_get := by decide +kernel
theorem lk_X8_get_1 : Cond.constantLong RX8 67 2 ∈ wsX8_get := by decide +kernel
theorem lk_X8_get_2 : Cond.fieldLink RX8 16 (TX8 2).1 (TX8 2).2.1 (TX8 2).2.2.1 ∈ wsX8_get := by decide +kernel
set_option maxRecDepth 100000 in
theorem r_X8_get_0 {X : Bn} (C : Cx X cX8_get 4 RX8 wsX8_get 2 48) (ad : Nat → Nat) (S : MS) (x1 : Int32) (x2 : Int32) (x3 : Int32) (h : (((f_X8_isSheet x1) = true) → ((((f_X8_in x2.toInt64 (0 : Int64) (2 : Int64)) = true) → ((p_X8_lacks S x1 x2 x3) ∧ (((f_X8_lacks S x1 x2 x3 = 0) → ((vp_in ((64 * x1) + x3) 256) ∧ (Ends X (some .int) (some (.int ((s_X8_lacks S x1 x2 x3).1 2 (((64 * x1) + x3).toNatClampNeg)))) (mW X.E ad (s_X8_lacks S x1 x2 x3))))) ∧ (¬ f_X8_lacks S x1 x2 x3 = 0 → (Ends X (some .int) (some (.int (-2147483648))) (mW X.E ad (s_X8_lacks S x1 x2 x3))))))) ∧ ((f_X8_in x2.toInt64 (0 : Int64) (2 : Int64)) = false → (Ends X (some .int) (some (.int (-2147483648))) (mW X.E ad S))))) ∧ ((f_X8_isSheet x1) = false → (Ends X (some .int) (some (.int (-2147483648))) (mW X.E ad S)))) : At X 4 (mW X.E ad S) 0 [(0, .ref (ad 0)), (1, .int x1), (2, .int x2), (3, .int x3)] [] := by
  refine at_iload_n C dX8_get_0 rfl (j := 1) rfl ?_
  refine at_cS0 C 1 (c_X8_isSheet X.l X.D X.E X.a1 X.a2 x1) gX8_get_X8_isSheet rfl (by decide +kernel) ⟨rfl, rfl⟩ rfl rfl rfl dX8_get_1 ?_
  refine at_ifB_eq C dX8_get_4 (tgt := 29) (by decide) (fun hc3 => ?_) (fun hc3 => ?_)
  · replace h := h.2 hc3
    refine at_ldc C lk_X8_get_0 dX8_get_29 ?_
    exact at_iret C dX8_get_31 h
  · replace h := h.1 hc3
    refine at_iload_n C dX8_get_7 rfl (j := 2) rfl ?_
    refine at_i2l C dX8_get_8 ?_
    refine at_lconst C dX8_get_9 (v := 0) rfl ?_
    refine at_ldc2 C lk_X8_get_1 dX8_get_10 ?_
    refine at_cS0 C 3 (c_X8_in X.l X.D X.E X.a1 X.a2 x2.toInt64 (0 : Int64) (2 : Int64)) gX8_get_X8_in rfl (by decide +kernel) ⟨rfl, rfl⟩ rfl rfl rfl dX8_get_13 ?_
    refine at_ifB_eq C dX8_get_16 (tgt := 29) (by decide) (fun hc4 => ?_) (fun hc4 => ?_)
    · replace h := h.2 hc4
      refine at_ldc C lk_X8_get_0 dX8_get_29 ?_
      exact at_iret C dX8_get_31 h
    · replace h := h.1 hc4
      refine at_aload_n C dX8_get_19 rfl (j := 0) rfl ?_
      refine at_iload_n C dX8_get_20 rfl (j := 1) rfl ?_
      refine at_iload_n C dX8_get_21 rfl (j := 2) rfl ?_
      refine at_iload_n C dX8_get_22 rfl (j := 3) rfl ?_
      refine at_cV1 C 3 (c_X8_lacks X.l X.D X.E X.a1 X.a2 ad S x1 x2 x3 h.1) gX8_get_X8_lacks rfl (by decide +kernel) ⟨rfl, rfl⟩ rfl rfl rfl 0 mW_c0 rfl dX8_get_23 ?_
      replace h := h.2
      refine at_if_eq C dX8_get_26 (tgt := 32) (by decide) (fun hc5 => ?_) (fun hc5 => ?_)
      · replace h := h.1 hc5
        refine at_aload_n C dX8_get_32 rfl (j := 0) rfl ?_
        refine at_get C (K := RX8) (T := TX8) (N := 18) (ci := 7) (v := .ref (ad 3)) iw_X8_get_X8 0 mW_c0 rfl 2 (by decide) lk_X8_get_2 rfl dX8_get_33 ?_
        refine at_bipush C dX8_get_36 (v := 64) rfl ?_
        refine at_iload_n C dX8_get_38 rfl (j := 1) rfl ?_
        refine at_imul C dX8_get_39 ?_
        refine at_iload_n C dX8_get_40 rfl (j := 3) rfl ?_
        refine at_iadd C dX8_get_41 ?_
        refine at_iald C 3 mW_c3 h.1 dX8_get_42 ?_
        replace h := h.2
        exact at_iret C dX8_get_43 h
      · replace h := h.2 hc5
        refine at_ldc C lk_X8_get_0 dX8_get_29 ?_
        exact at_iret C dX8_get_31 h
def f_X8_get (S : MS) (x1 : Int32) (x2 : Int32) (x3 : Int32) : Int32 := if (f_X8_isSheet x1) then (if (f_X8_in x2.toInt64 (0 : Int64) (2 : Int64)) then (if f_X8_lacks S x1 x2 x3 = 0 then ((s_X8_lacks S x1 x2 x3).1 2 (((64 * x1) + x3).toNatClampNeg)) else (-2147483648)) else (-2147483648)) else (-2147483648)
def s_X8_get (S : MS) (x1 : Int32) (x2 : Int32) (x3 : Int32) : MS := if (f_X8_isSheet x1) then (if (f_X8_in x2.toInt64 (0 : Int64) (2 : Int64)) then (if f_X8_lacks S x1 x2 x3 = 0 then (s_X8_lacks S x1 x2 x3) else (s_X8_lacks S x1 x2 x3)) else S) else S
def p_X8_get (S : MS) (x1 : Int32) (x2 : Int32) (x3 : Int32) : Prop := (((f_X8_isSheet x1) = true) → (((f_X8_in x2.toInt64 (0 : Int64) (2 : Int64)) = true) → (p_X8_lacks S x1 x2 x3) ∧ ((f_X8_lacks S x1 x2 x3 = 0) → (vp_in ((64 * x1) + x3) 256))))
set_option maxRecDepth 100000 in
theorem c_X8_get (l : Launch) (D : va_G) (E : Nat → ClassId) (a1 a2 : Nat) (ad : Nat → Nat) (S : MS) (x1 : Int32) (x2 : Int32) (x3 : Int32) (hp : p_X8_get S x1 x2 x3) : Fn l D E a1 a2 yX8_get wsX8_get 2 48 [.ref (ad 0), .int x1, .int x2, .int x3] (mW E ad S) (some (.int (f_X8_get S x1 x2 x3))) (mW E ad (s_X8_get S x1 x2 x3)) := by
  refine Fn.of (cc := cX8_get) (maxL := 4) (ret := (some .int)) (own := RX8) (by decide) rfl rfl (sameM _ _ _ _) (Nat.le_of_ble_eq_true rfl) (fun X h1 h2 h3 h4 h5 C hE => ?_)
  subst h1 h2 h3 h4 h5
  refine r_X8_get_0 C ad S x1 x2 x3 ?_
  refine ⟨fun hc0 => ?_, fun hc0 => ?_⟩
  · refine ⟨fun hc1 => ?_, fun hc1 => ?_⟩
    · refine ⟨((hp hc0) hc1).1, ?_⟩
      refine ⟨fun hc2 => ?_, fun hc2 => ?_⟩
      · refine ⟨(((hp hc0) hc1).2 hc2), ?_⟩
        simp only [f_X8_get, s_X8_get, if_pos hc0, if_pos hc1, if_pos hc2] at hE
        exact hE
      · simp only [f_X8_get, s_X8_get, if_pos hc0, if_pos hc1, if_neg hc2] at hE
        exact hE
    · simp only [f_X8_get, s_X8_get, if_pos hc0, if_neg (show ¬ (f_X8_in x2.toInt64 (0 : Int64) (2 : Int64)) = true by rw [hc1]; decide)] at hE
      exact hE
  · simp only [f_X8_get, s_X8_get, if_neg (show ¬ (f_X8_isSheet x1) = true by rw [hc0]; decide)] at hE
    exact hE
set_option maxRecDepth 20000 in
theorem ggX8_type_X8_isTwo : GoodIn wsX8_type wsX8_isTwo := goodIn_r _ [7, 8, 9, 6, 10] (by decide +kernel) (by decide +kernel)
set_option maxRecDepth 20000 in
theorem gX8_type_X8_isTwo : GoodIn wsX8_type (va_wsS RX8 82 yX8_isTwo wsX8_isTwo) := goodIn_app (goodIn_of _ (by decide +kernel)) ggX8_type_X8_isTwo
set_option maxRecDepth 20000 in
theorem ggX8_type_X8_in : GoodIn wsX8_type wsX8_in := goodIn_r _ [10] (by decide +kernel) (by decide +kernel)
set_option maxRecDepth 20000 in
theorem gX8_type_X8_in : GoodIn wsX8_type (va_wsS RX8 53 yX8_in wsX8_in) := goodIn_app (goodIn_of _ (by decide +kernel)) ggX8_type_X8_in
theorem dX8_type_0 : decode cX8_type 0 = .ok (.iload_n 1, 1) := by decide +kernel
theorem dX8_type_1 : decode cX8_type 1 = .ok (.invokestatic 82, 3) := by decide +kernel
theorem dX8_type_4 : decode cX8_type 4 = .ok (.ifCond .eq 15, 3) := by decide +kernel
theorem dX8_type_7 : decode cX8_type 7 = .ok (.iload_n 2, 1) := by decide +kernel
theorem dX8_type_8 : decode cX8_type 8 = .ok (.i2l, 1) := by decide +kernel
theorem dX8_type_9 : decode cX8_type 9 = .ok (.lconst 0, 1) := by decide +kernel
theorem dX8_type_10 : decode cX8_type 10 = .ok (.ldc2_w 85, 3) := by decide +kernel
theorem dX8_type_13 : decode cX8_type 13 = .ok (.invokestatic 53, 3) := by decide +kernel
theorem dX8_type_16 : decode cX8_type 16 = .ok (.ifCond .ne 6, 3) := by decide +kernel
theorem dX8_type_19 : decode cX8_type 19 = .ok (.bipush (-2), 2) := by decide +kernel
theorem dX8_type_21 : decode cX8_type 21 = .ok (.ireturn, 1) := by decide +kernel
theorem dX8_type_22 : decode cX8_type 22 = .ok (.aload_n 0, 1) := by decide +kernel
theorem dX8_type_23 : decode cX8_type 23 = .ok (.getfield 25, 3) := by decide +kernel
theorem dX8_type_26 : decode cX8_type 26 = .ok (.iload_n 1, 1) := by decide +kernel
theorem dX8_type_27 : decode cX8_type 27 = .ok (.iaload, 1) := by decide +kernel
theorem dX8_type_28 : decode cX8_type 28 = .ok (.iload_n 1, 1) := by decide +kernel
theorem dX8_type_29 : decode cX8_type 29 = .ok (.ifCond .ne 8, 3) := by decide +kernel
theorem dX8_type_32 : decode cX8_type 32 = .ok (.bipush 40, 2) := by decide +kernel
theorem dX8_type_34 : decode cX8_type 34 = .ok (.goto 5, 3) := by decide +kernel
theorem dX8_type_37 : decode cX8_type 37 = .ok (.bipush 71, 2) := by decide +kernel
theorem dX8_type_39 : decode cX8_type 39 = .ok (.if_icmp .ne 6, 3) := by decide +kernel
theorem dX8_type_42 : decode cX8_type 42 = .ok (.bipush (-4), 2) := by decide +kernel
theorem dX8_type_44 : decode cX8_type 44 = .ok (.ireturn, 1) := by decide +kernel
theorem dX8_type_45 : decode cX8_type 45 = .ok (.aload_n 0, 1) := by decide +kernel
theorem dX8_type_46 : decode cX8_type 46 = .ok (.getfield 22, 3) := by decide +kernel
theorem dX8_type_49 : decode cX8_type 49 = .ok (.bipush 40, 2) := by decide +kernel
theorem dX8_type_51 : decode cX8_type 51 = .ok (.iload_n 1, 1) := by decide +kernel
theorem dX8_type_52 : decode cX8_type 52 = .ok (.imul, 1) := by decide +kernel
theorem dX8_type_53 : decode cX8_type 53 = .ok (.aload_n 0, 1) := by decide +kernel
theorem dX8_type_54 : decode cX8_type 54 = .ok (.getfield 25, 3) := by decide +kernel
theorem dX8_type_57 : decode cX8_type 57 = .ok (.iload_n 1, 1) := by decide +kernel
theorem dX8_type_58 : decode cX8_type 58 = .ok (.iaload, 1) := by decide +kernel
theorem dX8_type_59 : decode cX8_type 59 = .ok (.iadd, 1) := by decide +kernel
theorem dX8_type_60 : decode cX8_type 60 = .ok (.iload_n 2, 1) := by decide +kernel
theorem dX8_type_61 : decode cX8_type 61 = .ok (.iastore, 1) := by decide +kernel
theorem dX8_type_62 : decode cX8_type 62 = .ok (.aload_n 0, 1) := by decide +kernel
theorem dX8_type_63 : decode cX8_type 63 = .ok (.getfield 25, 3) := by decide +kernel
theorem dX8_type_66 : decode cX8_type 66 = .ok (.iload_n 1, 1) := by decide +kernel
theorem dX8_type_67 : decode cX8_type 67 = .ok (.dup2, 1) := by decide +kernel
theorem dX8_type_68 : decode cX8_type 68 = .ok (.iaload, 1) := by decide +kernel
theorem dX8_type_69 : decode cX8_type 69 = .ok (.iconst 1, 1) := by decide +kernel
theorem dX8_type_70 : decode cX8_type 70 = .ok (.iadd, 1) := by decide +kernel
theorem dX8_type_71 : decode cX8_type 71 = .ok (.iastore, 1) := by decide +kernel
theorem dX8_type_72 : decode cX8_type 72 = .ok (.aload_n 0, 1) := by decide +kernel
theorem dX8_type_73 : decode cX8_type 73 = .ok (.getfield 25, 3) := by decide +kernel
theorem dX8_type_76 : decode cX8_type 76 = .ok (.iload_n 1, 1) := by decide +kernel
theorem dX8_type_77 : decode cX8_type 77 = .ok (.iaload, 1) := by decide +kernel
theorem dX8_type_78 : decode cX8_type 78 = .ok (.ireturn, 1) := by decide +kernel
theorem iw_X8_type_X8 : ∀ w ∈ u_ws RX8 TX8 18, w ∈ wsX8_type := by decide +kernel
theorem lk_X8_type_0 : Cond.constantLong RX8 85 255 ∈ wsX8_type := by decide +kernel
theorem lk_X8_type_1 : Cond.fieldLink RX8 25 (TX8 6).1 (TX8 6).2.1 (TX8 6).2.2.1 ∈ wsX8_type := by decide +kernel
theorem lk_X8_type_2 : Cond.fieldLink RX8 22 (TX8 5).1 (TX8 5).2.1 (TX8 5).2.2.1 ∈ wsX8_type := by decide +kernel
set_option maxRecDepth 100000 in
theorem r_X8_type_0 {X : Bn} (C : Cx X cX8_type 3 RX8 wsX8_type 2 45) (ad : Nat → Nat) (S : MS) (x1 : Int32) (x2 : Int32) (h : (((f_X8_isTwo x1) = true) → ((((f_X8_in x2.toInt64 (0 : Int64) (255 : Int64)) = true) → ((vp_in x1 2) ∧ (((S.1 6 x1.toNatClampNeg = (if x1 = 0 then 40 else 71)) → (Ends X (some .int) (some (.int (-4))) (mW X.E ad S))) ∧ (¬ S.1 6 x1.toNatClampNeg = (if x1 = 0 then 40 else 71) → ((vp_in x1 2) ∧ ((vp_in ((40 * x1) + (S.1 6 x1.toNatClampNeg)) 112) ∧ ((vp_in x1 2) ∧ ((vp_in x1 2) ∧ ((vp_in x1 2) ∧ (Ends X (some .int) (some (.int ((pg (pg S 5 (((40 * x1) + (S.1 6 x1.toNatClampNeg)).toNatClampNeg) x2) 6 x1.toNatClampNeg ((S.1 6 x1.toNatClampNeg) + 1)).1 6 x1.toNatClampNeg))) (mW X.E ad (pg (pg S 5 (((40 * x1) + (S.1 6 x1.toNatClampNeg)).toNatClampNeg) x2) 6 x1.toNatClampNeg ((S.1 6 x1.toNatClampNeg) + 1))))))))))))) ∧ ((f_X8_in x2.toInt64 (0 : Int64) (255 : Int64)) = false → (Ends X (some .int) (some (.int (-2))) (mW X.E ad S))))) ∧ ((f_X8_isTwo x1) = false → (Ends X (some .int) (some (.int (-2))) (mW X.E ad S)))) : At X 3 (mW X.E ad S) 0 [(0, .ref (ad 0)), (1, .int x1), (2, .int x2)] [] := by
  refine at_iload_n C dX8_type_0 rfl (j := 1) rfl ?_
  refine at_cS0 C 1 (c_X8_isTwo X.l X.D X.E X.a1 X.a2 x1) gX8_type_X8_isTwo rfl (by decide +kernel) ⟨rfl, rfl⟩ rfl rfl rfl dX8_type_1 ?_
  refine at_ifB_eq C dX8_type_4 (tgt := 19) (by decide) (fun hc3 => ?_) (fun hc3 => ?_)
  · replace h := h.2 hc3
    refine at_bipush C dX8_type_19 (v := (-2)) rfl ?_
    exact at_iret C dX8_type_21 h
  · replace h := h.1 hc3
    refine at_iload_n C dX8_type_7 rfl (j := 2) rfl ?_
    refine at_i2l C dX8_type_8 ?_
    refine at_lconst C dX8_type_9 (v := 0) rfl ?_
    refine at_ldc2 C lk_X8_type_0 dX8_type_10 ?_
    refine at_cS0 C 3 (c_X8_in X.l X.D X.E X.a1 X.a2 x2.toInt64 (0 : Int64) (255 : Int64)) gX8_type_X8_in rfl (by decide +kernel) ⟨rfl, rfl⟩ rfl rfl rfl dX8_type_13 ?_
    refine at_ifB_ne C dX8_type_16 (tgt := 22) (by decide) (fun hc4 => ?_) (fun hc4 => ?_)
    · replace h := h.1 hc4
      refine at_aload_n C dX8_type_22 rfl (j := 0) rfl ?_
      refine at_get C (K := RX8) (T := TX8) (N := 18) (ci := 7) (v := .ref (ad 6)) iw_X8_type_X8 0 mW_c0 rfl 6 (by decide) lk_X8_type_1 rfl dX8_type_23 ?_
      refine at_iload_n C dX8_type_26 rfl (j := 1) rfl ?_
      refine at_iald C 6 mW_c6 h.1 dX8_type_27 ?_
      replace h := h.2
      refine at_iload_n C dX8_type_28 rfl (j := 1) rfl ?_
      have K : At X 3 (mW X.E ad S) 39 [(0, .ref (ad 0)), (1, .int x1), (2, .int x2)] [.int (if x1 = 0 then 40 else 71), .int (S.1 6 x1.toNatClampNeg)] := by
        refine at_icmp_ne C dX8_type_39 (tgt := 45) (by decide) (fun hc5 => ?_) (fun hc5 => ?_)
        · replace h := h.2 hc5
          refine at_aload_n C dX8_type_45 rfl (j := 0) rfl ?_
          refine at_get C (K := RX8) (T := TX8) (N := 18) (ci := 7) (v := .ref (ad 5)) iw_X8_type_X8 0 mW_c0 rfl 5 (by decide) lk_X8_type_2 rfl dX8_type_46 ?_
          refine at_bipush C dX8_type_49 (v := 40) rfl ?_
          refine at_iload_n C dX8_type_51 rfl (j := 1) rfl ?_
          refine at_imul C dX8_type_52 ?_
          refine at_aload_n C dX8_type_53 rfl (j := 0) rfl ?_
          refine at_get C (K := RX8) (T := TX8) (N := 18) (ci := 7) (v := .ref (ad 6)) iw_X8_type_X8 0 mW_c0 rfl 6 (by decide) lk_X8_type_1 rfl dX8_type_54 ?_
          refine at_iload_n C dX8_type_57 rfl (j := 1) rfl ?_
          refine at_iald C 6 mW_c6 h.1 dX8_type_58 ?_
          replace h := h.2
          refine at_iadd C dX8_type_59 ?_
          refine at_iload_n C dX8_type_60 rfl (j := 2) rfl ?_
          refine at_iast C 5 mW_c5 h.1 mW_s5 dX8_type_61 ?_
          replace h := h.2
          refine at_aload_n C dX8_type_62 rfl (j := 0) rfl ?_
          refine at_get C (K := RX8) (T := TX8) (N := 18) (ci := 7) (v := .ref (ad 6)) iw_X8_type_X8 0 mW_c0 rfl 6 (by decide) lk_X8_type_1 rfl dX8_type_63 ?_
          refine at_iload_n C dX8_type_66 rfl (j := 1) rfl ?_
          refine at_dup2_11 C dX8_type_67 rfl rfl ?_
          refine at_iald C 6 mW_c6 h.1 dX8_type_68 ?_
          replace h := h.2
          refine at_topI (pg_o (by decide)) ?_
          refine at_iconst C dX8_type_69 (v := 1) rfl ?_
          refine at_iadd C dX8_type_70 ?_
          refine at_iast C 6 mW_c6 h.1 mW_s6 dX8_type_71 ?_
          replace h := h.2
          refine at_aload_n C dX8_type_72 rfl (j := 0) rfl ?_
          refine at_get C (K := RX8) (T := TX8) (N := 18) (ci := 7) (v := .ref (ad 6)) iw_X8_type_X8 0 mW_c0 rfl 6 (by decide) lk_X8_type_1 rfl dX8_type_73 ?_
          refine at_iload_n C dX8_type_76 rfl (j := 1) rfl ?_
          refine at_iald C 6 mW_c6 h.1 dX8_type_77 ?_
          replace h := h.2
          exact at_iret C dX8_type_78 h
        · replace h := h.1 hc5
          refine at_bipush C dX8_type_42 (v := (-4)) rfl ?_
          exact at_iret C dX8_type_44 h
      refine at_if_ne C dX8_type_29 (tgt := 37) (by decide) (fun hc5 => ?_) (fun hc5 => ?_)
      · skip
        refine at_bipush C dX8_type_37 (v := 71) rfl ?_
        first | (simp only [if_neg hc5] at K; exact K) | exact K
      · skip
        refine at_bipush C dX8_type_32 (v := 40) rfl ?_
        refine at_goto C dX8_type_34 (tgt := 39) (by decide) ?_
        first | (simp only [if_pos hc5] at K; exact K) | exact K
    · replace h := h.2 hc4
      refine at_bipush C dX8_type_19 (v := (-2)) rfl ?_
      exact at_iret C dX8_type_21 h
def f_X8_type (S : MS) (x1 : Int32) (x2 : Int32) : Int32 := if (f_X8_isTwo x1) then (if (f_X8_in x2.toInt64 (0 : Int64) (255 : Int64)) then (if S.1 6 x1.toNatClampNeg = (if x1 = 0 then 40 else 71) then (-4) else ((pg (pg S 5 (((40 * x1) + (S.1 6 x1.toNatClampNeg)).toNatClampNeg) x2) 6 x1.toNatClampNeg ((S.1 6 x1.toNatClampNeg) + 1)).1 6 x1.toNatClampNeg)) else (-2)) else (-2)
def s_X8_type (S : MS) (x1 : Int32) (x2 : Int32) : MS := if (f_X8_isTwo x1) then (if (f_X8_in x2.toInt64 (0 : Int64) (255 : Int64)) then (if S.1 6 x1.toNatClampNeg = (if x1 = 0 then 40 else 71) then S else (pg (pg S 5 (((40 * x1) + (S.1 6 x1.toNatClampNeg)).toNatClampNeg) x2) 6 x1.toNatClampNeg ((S.1 6 x1.toNatClampNeg) + 1))) else S) else S
def p_X8_type (S : MS) (x1 : Int32) (x2 : Int32) : Prop := (((f_X8_isTwo x1) = true) → (((f_X8_in x2.toInt64 (0 : Int64) (255 : Int64)) = true) → (vp_in x1 2) ∧ ((¬ S.1 6 x1.toNatClampNeg = (if x1 = 0 then 40 else 71)) → (vp_in x1 2) ∧ (vp_in ((40 * x1) + (S.1 6 x1.toNatClampNeg)) 112) ∧ (vp_in x1 2) ∧ (vp_in x1 2) ∧ (vp_in x1 2))))
set_option maxRecDepth 100000 in
theorem c_X8_type (l : Launch) (D : va_G) (E : Nat → ClassId) (a1 a2 : Nat) (ad : Nat → Nat) (S : MS) (x1 : Int32) (x2 : Int32) (hp : p_X8_type S x1 x2) : Fn l D E a1 a2 yX8_type wsX8_type 2 45 [.ref (ad 0), .int x1, .int x2] (mW E ad S) (some (.int (f_X8_type S x1 x2))) (mW E ad (s_X8_type S x1 x2)) := by
  refine Fn.of (cc := cX8_type) (maxL := 3) (ret := (some .int)) (own := RX8) (by decide) rfl rfl (sameM _ _ _ _) (Nat.le_of_ble_eq_true rfl) (fun X h1 h2 h3 h4 h5 C hE => ?_)
  subst h1 h2 h3 h4 h5
  refine r_X8_type_0 C ad S x1 x2 ?_
  refine ⟨fun hc0 => ?_, fun hc0 => ?_⟩
  · refine ⟨fun hc1 => ?_, fun hc1 => ?_⟩
    · refine ⟨((hp hc0) hc1).1, ?_⟩
      refine ⟨fun hc2 => ?_, fun hc2 => ?_⟩
      · simp only [f_X8_type, s_X8_type, if_pos hc0, if_pos hc1, if_pos hc2] at hE
        exact hE
      · refine ⟨(((hp hc0) hc1).2 hc2).1, ?_⟩
        refine ⟨(((hp hc0) hc1).2 hc2).2.1, ?_⟩
        refine ⟨(((hp hc0) hc1).2 hc2).2.2.1, ?_⟩
        refine ⟨(((hp hc0) hc1).2 hc2).2.2.2.1, ?_⟩
        refine ⟨(((hp hc0) hc1).2 hc2).2.2.2.2, ?_⟩
        simp only [f_X8_type, s_X8_type, if_pos hc0, if_pos hc1, if_neg hc2] at hE
        exact hE
    · simp only [f_X8_type, s_X8_type, if_pos hc0, if_neg (show ¬ (f_X8_in x2.toInt64 (0 : Int64) (255 : Int64)) = true by rw [hc1]; decide)] at hE
      exact hE
  · simp only [f_X8_type, s_X8_type, if_neg (show ¬ (f_X8_isTwo x1) = true by rw [hc0]; decide)] at hE
    exact hE
set_option maxRecDepth 20000 in
theorem ggX8_wipe_X8_isTwo : GoodIn wsX8_wipe wsX8_isTwo := goodIn_r _ [5, 6, 7, 4, 8] (by decide +kernel) (by decide +kernel)
set_option maxRecDepth 20000 in
theorem gX8_wipe_X8_isTwo : GoodIn wsX8_wipe (va_wsS RX8 82 yX8_isTwo wsX8_isTwo) := goodIn_app (goodIn_of _ (by decide +kernel)) ggX8_wipe_X8_isTwo
theorem dX8_wipe_0 : decode cX8_wipe 0 = .ok (.iload_n 1, 1) := by decide +kernel
theorem dX8_wipe_1 : decode cX8_wipe 1 = .ok (.invokestatic 82, 3) := by decide +kernel
theorem dX8_wipe_4 : decode cX8_wipe 4 = .ok (.ifCond .ne 6, 3) := by decide +kernel
theorem dX8_wipe_7 : decode cX8_wipe 7 = .ok (.bipush (-2), 2) := by decide +kernel
theorem dX8_wipe_9 : decode cX8_wipe 9 = .ok (.ireturn, 1) := by decide +kernel
theorem dX8_wipe_10 : decode cX8_wipe 10 = .ok (.aload_n 0, 1) := by decide +kernel
theorem dX8_wipe_11 : decode cX8_wipe 11 = .ok (.getfield 25, 3) := by decide +kernel
theorem dX8_wipe_14 : decode cX8_wipe 14 = .ok (.iload_n 1, 1) := by decide +kernel
theorem dX8_wipe_15 : decode cX8_wipe 15 = .ok (.iaload, 1) := by decide +kernel
theorem dX8_wipe_16 : decode cX8_wipe 16 = .ok (.istore_n 2, 1) := by decide +kernel
theorem dX8_wipe_17 : decode cX8_wipe 17 = .ok (.aload_n 0, 1) := by decide +kernel
theorem dX8_wipe_18 : decode cX8_wipe 18 = .ok (.getfield 25, 3) := by decide +kernel
theorem dX8_wipe_21 : decode cX8_wipe 21 = .ok (.iload_n 1, 1) := by decide +kernel
theorem dX8_wipe_22 : decode cX8_wipe 22 = .ok (.iconst 0, 1) := by decide +kernel
theorem dX8_wipe_23 : decode cX8_wipe 23 = .ok (.iastore, 1) := by decide +kernel
theorem dX8_wipe_24 : decode cX8_wipe 24 = .ok (.iload_n 2, 1) := by decide +kernel
theorem dX8_wipe_25 : decode cX8_wipe 25 = .ok (.ireturn, 1) := by decide +kernel
theorem iw_X8_wipe_X8 : ∀ w ∈ u_ws RX8 TX8 18, w ∈ wsX8_wipe := by decide +kernel
theorem lk_X8_wipe_0 : Cond.fieldLink RX8 25 (TX8 6).1 (TX8 6).2.1 (TX8 6).2.2.1 ∈ wsX8_wipe := by decide +kernel
set_option maxRecDepth 100000 in
theorem r_X8_wipe_0 {X : Bn} (C : Cx X cX8_wipe 3 RX8 wsX8_wipe 2 45) (ad : Nat → Nat) (S : MS) (x1 : Int32) (h : (((f_X8_isTwo x1) = true) → ((vp_in x1 2) ∧ ((vp_in x1 2) ∧ (Ends X (some .int) (some (.int (S.1 6 x1.toNatClampNeg))) (mW X.E ad (pg S 6 x1.toNatClampNeg 0)))))) ∧ ((f_X8_isTwo x1) = false → (Ends X (some .int) (some (.int (-2))) (mW X.E ad S)))) : At X 3 (mW X.E ad S) 0 [(0, .ref (ad 0)), (1, .int x1)] [] := by
  refine at_iload_n C dX8_wipe_0 rfl (j := 1) rfl ?_
  refine at_cS0 C 1 (c_X8_isTwo X.l X.D X.E X.a1 X.a2 x1) gX8_wipe_X8_isTwo rfl (by decide +kernel) ⟨rfl, rfl⟩ rfl rfl rfl dX8_wipe_1 ?_
  refine at_ifB_ne C dX8_wipe_4 (tgt := 10) (by decide) (fun hc1 => ?_) (fun hc1 => ?_)
  · replace h := h.1 hc1
    refine at_aload_n C dX8_wipe_10 rfl (j := 0) rfl ?_
    refine at_get C (K := RX8) (T := TX8) (N := 18) (ci := 7) (v := .ref (ad 6)) iw_X8_wipe_X8 0 mW_c0 rfl 6 (by decide) lk_X8_wipe_0 rfl dX8_wipe_11 ?_
    refine at_iload_n C dX8_wipe_14 rfl (j := 1) rfl ?_
    refine at_iald C 6 mW_c6 h.1 dX8_wipe_15 ?_
    replace h := h.2
    refine at_istore_n C dX8_wipe_16 rfl (by decide) (lv' := [(2, .int (S.1 6 x1.toNatClampNeg)), (0, .ref (ad 0)), (1, .int x1)]) rfl ?_
    refine at_aload_n C dX8_wipe_17 rfl (j := 1) rfl ?_
    refine at_get C (K := RX8) (T := TX8) (N := 18) (ci := 7) (v := .ref (ad 6)) iw_X8_wipe_X8 0 mW_c0 rfl 6 (by decide) lk_X8_wipe_0 rfl dX8_wipe_18 ?_
    refine at_iload_n C dX8_wipe_21 rfl (j := 2) rfl ?_
    refine at_iconst C dX8_wipe_22 (v := 0) rfl ?_
    refine at_iast C 6 mW_c6 h.1 mW_s6 dX8_wipe_23 ?_
    replace h := h.2
    refine at_iload_n C dX8_wipe_24 rfl (j := 0) rfl ?_
    exact at_iret C dX8_wipe_25 h
  · replace h := h.2 hc1
    refine at_bipush C dX8_wipe_7 (v := (-2)) rfl ?_
    exact at_iret C dX8_wipe_9 h
def f_X8_wipe (S : MS) (x1 : Int32) : Int32 := if (f_X8_isTwo x1) then (S.1 6 x1.toNatClampNeg) else (-2)
def s_X8_wipe (S : MS) (x1 : Int32) : MS := if (f_X8_isTwo x1) then (pg S 6 x1.toNatClampNeg 0) else S
def p_X8_wipe (S : MS) (x1 : Int32) : Prop := (((f_X8_isTwo x1) = true) → (vp_in x1 2) ∧ (vp_in x1 2))
set_option maxRecDepth 100000 in
theorem c_X8_wipe (l : Launch) (D : va_G) (E : Nat → ClassId) (a1 a2 : Nat) (ad : Nat → Nat) (S : MS) (x1 : Int32) (hp : p_X8_wipe S x1) : Fn l D E a1 a2 yX8_wipe wsX8_wipe 2 45 [.ref (ad 0), .int x1] (mW E ad S) (some (.int (f_X8_wipe S x1))) (mW E ad (s_X8_wipe S x1)) := by
  refine Fn.of (cc := cX8_wipe) (maxL := 3) (ret := (some .int)) (own := RX8) (by decide) rfl rfl (sameM _ _ _ _) (Nat.le_of_ble_eq_true rfl) (fun X h1 h2 h3 h4 h5 C hE => ?_)
  subst h1 h2 h3 h4 h5
  refine r_X8_wipe_0 C ad S x1 ?_
  refine ⟨fun hc0 => ?_, fun hc0 => ?_⟩
  · refine ⟨(hp hc0).1, ?_⟩
    refine ⟨(hp hc0).2, ?_⟩
    simp only [f_X8_wipe, s_X8_wipe, if_pos hc0] at hE
    exact hE
  · simp only [f_X8_wipe, s_X8_wipe, if_neg (show ¬ (f_X8_isTwo x1) = true by rw [hc0]; decide)] at hE
    exact hE
set_option maxRecDepth 20000 in
theorem ggX8_undo_X8_isTwo : GoodIn wsX8_undo wsX8_isTwo := goodIn_r _ [5, 6, 7, 4, 8] (by decide +kernel) (by decide +kernel)
set_option maxRecDepth 20000 in
theorem gX8_undo_X8_isTwo : GoodIn wsX8_undo (va_wsS RX8 82 yX8_isTwo wsX8_isTwo) := goodIn_app (goodIn_of _ (by decide +kernel)) ggX8_undo_X8_isTwo
theorem dX8_undo_0 : decode cX8_undo 0 = .ok (.iload_n 1, 1) := by decide +kernel
theorem dX8_undo_1 : decode cX8_undo 1 = .ok (.invokestatic 82, 3) := by decide +kernel
theorem dX8_undo_4 : decode cX8_undo 4 = .ok (.ifCond .ne 6, 3) := by decide +kernel
theorem dX8_undo_7 : decode cX8_undo 7 = .ok (.bipush (-2), 2) := by decide +kernel
theorem dX8_undo_9 : decode cX8_undo 9 = .ok (.ireturn, 1) := by decide +kernel
theorem dX8_undo_10 : decode cX8_undo 10 = .ok (.aload_n 0, 1) := by decide +kernel
theorem dX8_undo_11 : decode cX8_undo 11 = .ok (.getfield 25, 3) := by decide +kernel
theorem dX8_undo_14 : decode cX8_undo 14 = .ok (.iload_n 1, 1) := by decide +kernel
theorem dX8_undo_15 : decode cX8_undo 15 = .ok (.iaload, 1) := by decide +kernel
theorem dX8_undo_16 : decode cX8_undo 16 = .ok (.ifCond .ne 6, 3) := by decide +kernel
theorem dX8_undo_19 : decode cX8_undo 19 = .ok (.bipush (-3), 2) := by decide +kernel
theorem dX8_undo_21 : decode cX8_undo 21 = .ok (.ireturn, 1) := by decide +kernel
theorem dX8_undo_22 : decode cX8_undo 22 = .ok (.aload_n 0, 1) := by decide +kernel
theorem dX8_undo_23 : decode cX8_undo 23 = .ok (.getfield 25, 3) := by decide +kernel
theorem dX8_undo_26 : decode cX8_undo 26 = .ok (.iload_n 1, 1) := by decide +kernel
theorem dX8_undo_27 : decode cX8_undo 27 = .ok (.dup2, 1) := by decide +kernel
theorem dX8_undo_28 : decode cX8_undo 28 = .ok (.iaload, 1) := by decide +kernel
theorem dX8_undo_29 : decode cX8_undo 29 = .ok (.iconst 1, 1) := by decide +kernel
theorem dX8_undo_30 : decode cX8_undo 30 = .ok (.isub, 1) := by decide +kernel
theorem dX8_undo_31 : decode cX8_undo 31 = .ok (.iastore, 1) := by decide +kernel
theorem dX8_undo_32 : decode cX8_undo 32 = .ok (.aload_n 0, 1) := by decide +kernel
theorem dX8_undo_33 : decode cX8_undo 33 = .ok (.getfield 25, 3) := by decide +kernel
theorem dX8_undo_36 : decode cX8_undo 36 = .ok (.iload_n 1, 1) := by decide +kernel
theorem dX8_undo_37 : decode cX8_undo 37 = .ok (.iaload, 1) := by decide +kernel
theorem dX8_undo_38 : decode cX8_undo 38 = .ok (.ireturn, 1) := by decide +kernel
theorem iw_X8_undo_X8 : ∀ w ∈ u_ws RX8 TX8 18, w ∈ wsX8_undo := by decide +kernel
theorem lk_X8_undo_0 : Cond.fieldLink RX8 25 (TX8 6).1 (TX8 6).2.1 (TX8 6).2.2.1 ∈ wsX8_undo := by decide +kernel
set_option maxRecDepth 100000 in
theorem r_X8_undo_0 {X : Bn} (C : Cx X cX8_undo 2 RX8 wsX8_undo 2 45) (ad : Nat → Nat) (S : MS) (x1 : Int32) (h : (((f_X8_isTwo x1) = true) → ((vp_in x1 2) ∧ (((S.1 6 x1.toNatClampNeg = 0) → (Ends X (some .int) (some (.int (-3))) (mW X.E ad S))) ∧ (¬ S.1 6 x1.toNatClampNeg = 0 → ((vp_in x1 2) ∧ ((vp_in x1 2) ∧ ((vp_in x1 2) ∧ (Ends X (some .int) (some (.int ((pg S 6 x1.toNatClampNeg ((S.1 6 x1.toNatClampNeg) - 1)).1 6 x1.toNatClampNeg))) (mW X.E ad (pg S 6 x1.toNatClampNeg ((S.1 6 x1.toNatClampNeg) - 1))))))))))) ∧ ((f_X8_isTwo x1) = false → (Ends X (some .int) (some (.int (-2))) (mW X.E ad S)))) : At X 2 (mW X.E ad S) 0 [(0, .ref (ad 0)), (1, .int x1)] [] := by
  refine at_iload_n C dX8_undo_0 rfl (j := 1) rfl ?_
  refine at_cS0 C 1 (c_X8_isTwo X.l X.D X.E X.a1 X.a2 x1) gX8_undo_X8_isTwo rfl (by decide +kernel) ⟨rfl, rfl⟩ rfl rfl rfl dX8_undo_1 ?_
  refine at_ifB_ne C dX8_undo_4 (tgt := 10) (by decide) (fun hc2 => ?_) (fun hc2 => ?_)
  · replace h := h.1 hc2
    refine at_aload_n C dX8_undo_10 rfl (j := 0) rfl ?_
    refine at_get C (K := RX8) (T := TX8) (N := 18) (ci := 7) (v := .ref (ad 6)) iw_X8_undo_X8 0 mW_c0 rfl 6 (by decide) lk_X8_undo_0 rfl dX8_undo_11 ?_
    refine at_iload_n C dX8_undo_14 rfl (j := 1) rfl ?_
    refine at_iald C 6 mW_c6 h.1 dX8_undo_15 ?_
    replace h := h.2
    refine at_if_ne C dX8_undo_16 (tgt := 22) (by decide) (fun hc3 => ?_) (fun hc3 => ?_)
    · replace h := h.2 hc3
      refine at_aload_n C dX8_undo_22 rfl (j := 0) rfl ?_
      refine at_get C (K := RX8) (T := TX8) (N := 18) (ci := 7) (v := .ref (ad 6)) iw_X8_undo_X8 0 mW_c0 rfl 6 (by decide) lk_X8_undo_0 rfl dX8_undo_23 ?_
      refine at_iload_n C dX8_undo_26 rfl (j := 1) rfl ?_
      refine at_dup2_11 C dX8_undo_27 rfl rfl ?_
      refine at_iald C 6 mW_c6 h.1 dX8_undo_28 ?_
      replace h := h.2
      refine at_iconst C dX8_undo_29 (v := 1) rfl ?_
      refine at_isub C dX8_undo_30 ?_
      refine at_iast C 6 mW_c6 h.1 mW_s6 dX8_undo_31 ?_
      replace h := h.2
      refine at_aload_n C dX8_undo_32 rfl (j := 0) rfl ?_
      refine at_get C (K := RX8) (T := TX8) (N := 18) (ci := 7) (v := .ref (ad 6)) iw_X8_undo_X8 0 mW_c0 rfl 6 (by decide) lk_X8_undo_0 rfl dX8_undo_33 ?_
      refine at_iload_n C dX8_undo_36 rfl (j := 1) rfl ?_
      refine at_iald C 6 mW_c6 h.1 dX8_undo_37 ?_
      replace h := h.2
      exact at_iret C dX8_undo_38 h
    · replace h := h.1 hc3
      refine at_bipush C dX8_undo_19 (v := (-3)) rfl ?_
      exact at_iret C dX8_undo_21 h
  · replace h := h.2 hc2
    refine at_bipush C dX8_undo_7 (v := (-2)) rfl ?_
    exact at_iret C dX8_undo_9 h
def f_X8_undo (S : MS) (x1 : Int32) : Int32 := if (f_X8_isTwo x1) then (if S.1 6 x1.toNatClampNeg = 0 then (-3) else ((pg S 6 x1.toNatClampNeg ((S.1 6 x1.toNatClampNeg) - 1)).1 6 x1.toNatClampNeg)) else (-2)
def s_X8_undo (S : MS) (x1 : Int32) : MS := if (f_X8_isTwo x1) then (if S.1 6 x1.toNatClampNeg = 0 then S else (pg S 6 x1.toNatClampNeg ((S.1 6 x1.toNatClampNeg) - 1))) else S
def p_X8_undo (S : MS) (x1 : Int32) : Prop := (((f_X8_isTwo x1) = true) → (vp_in x1 2) ∧ ((¬ S.1 6 x1.toNatClampNeg = 0) → (vp_in x1 2) ∧ (vp_in x1 2) ∧ (vp_in x1 2)))
set_option maxRecDepth 100000 in
theorem c_X8_undo (l : Launch) (D : va_G) (E : Nat → ClassId) (a1 a2 : Nat) (ad : Nat → Nat) (S : MS) (x1 : Int32) (hp : p_X8_undo S x1) : Fn l D E a1 a2 yX8_undo wsX8_undo 2 45 [.ref (ad 0), .int x1] (mW E ad S) (some (.int (f_X8_undo S x1))) (mW E ad (s_X8_undo S x1)) := by
  refine Fn.of (cc := cX8_undo) (maxL := 2) (ret := (some .int)) (own := RX8) (by decide) rfl rfl (sameM _ _ _ _) (Nat.le_of_ble_eq_true rfl) (fun X h1 h2 h3 h4 h5 C hE => ?_)
  subst h1 h2 h3 h4 h5
  refine r_X8_undo_0 C ad S x1 ?_
  refine ⟨fun hc0 => ?_, fun hc0 => ?_⟩
  · refine ⟨(hp hc0).1, ?_⟩
    refine ⟨fun hc1 => ?_, fun hc1 => ?_⟩
    · simp only [f_X8_undo, s_X8_undo, if_pos hc0, if_pos hc1] at hE
      exact hE
    · refine ⟨((hp hc0).2 hc1).1, ?_⟩
      refine ⟨((hp hc0).2 hc1).2.1, ?_⟩
      refine ⟨((hp hc0).2 hc1).2.2, ?_⟩
      simp only [f_X8_undo, s_X8_undo, if_pos hc0, if_neg hc1] at hE
      exact hE
  · simp only [f_X8_undo, s_X8_undo, if_neg (show ¬ (f_X8_isTwo x1) = true by rw [hc0]; decide)] at hE
    exact hE
theorem dX8_here_0 : decode cX8_here 0 = .ok (.aload_n 0, 1) := by decide +kernel
theorem dX8_here_1 : decode cX8_here 1 = .ok (.getfield 87, 3) := by decide +kernel
theorem dX8_here_4 : decode cX8_here 4 = .ok (.aload_n 0, 1) := by decide +kernel
theorem dX8_here_5 : decode cX8_here 5 = .ok (.getfield 25, 3) := by decide +kernel
theorem dX8_here_8 : decode cX8_here 8 = .ok (.iload_n 1, 1) := by decide +kernel
theorem dX8_here_9 : decode cX8_here 9 = .ok (.iaload, 1) := by decide +kernel
theorem dX8_here_10 : decode cX8_here 10 = .ok (.if_icmp .ge 20, 3) := by decide +kernel
theorem dX8_here_13 : decode cX8_here 13 = .ok (.aload_n 0, 1) := by decide +kernel
theorem dX8_here_14 : decode cX8_here 14 = .ok (.getfield 22, 3) := by decide +kernel
theorem dX8_here_17 : decode cX8_here 17 = .ok (.bipush 40, 2) := by decide +kernel
theorem dX8_here_19 : decode cX8_here 19 = .ok (.iload_n 1, 1) := by decide +kernel
theorem dX8_here_20 : decode cX8_here 20 = .ok (.imul, 1) := by decide +kernel
theorem dX8_here_21 : decode cX8_here 21 = .ok (.aload_n 0, 1) := by decide +kernel
theorem dX8_here_22 : decode cX8_here 22 = .ok (.getfield 87, 3) := by decide +kernel
theorem dX8_here_25 : decode cX8_here 25 = .ok (.iadd, 1) := by decide +kernel
theorem dX8_here_26 : decode cX8_here 26 = .ok (.iaload, 1) := by decide +kernel
theorem dX8_here_27 : decode cX8_here 27 = .ok (.goto 4, 3) := by decide +kernel
theorem dX8_here_30 : decode cX8_here 30 = .ok (.iconst (-1), 1) := by decide +kernel
theorem dX8_here_31 : decode cX8_here 31 = .ok (.ireturn, 1) := by decide +kernel
theorem iw_X8_here_X8 : ∀ w ∈ u_ws RX8 TX8 18, w ∈ wsX8_here := by decide +kernel
theorem lk_X8_here_0 : Cond.fieldLink RX8 87 (TX8 7).1 (TX8 7).2.1 (TX8 7).2.2.1 ∈ wsX8_here := by decide +kernel
theorem lk_X8_here_1 : Cond.fieldLink RX8 25 (TX8 6).1 (TX8 6).2.1 (TX8 6).2.2.1 ∈ wsX8_here := by decide +kernel
theorem lk_X8_here_2 : Cond.fieldLink RX8 22 (TX8 5).1 (TX8 5).2.1 (TX8 5).2.2.1 ∈ wsX8_here := by decide +kernel
set_option maxRecDepth 100000 in
theorem r_X8_here_0 {X : Bn} (C : Cx X cX8_here 2 RX8 wsX8_here 0 0) (ad : Nat → Nat) (S : MS) (x1 : Int32) (h : (vp_in x1 2) ∧ ((((¬ S.1 6 x1.toNatClampNeg ≤ S.1 7 0) → (vp_in ((40 * x1) + (S.1 7 0)) 112))) ∧ (Ends X (some .int) (some (.int (if S.1 6 x1.toNatClampNeg ≤ S.1 7 0 then (-1) else S.1 5 (((40 * x1) + (S.1 7 0)).toNatClampNeg)))) (mW X.E ad S)))) : At X 2 (mW X.E ad S) 0 [(0, .ref (ad 0)), (1, .int x1)] [] := by
  refine at_aload_n C dX8_here_0 rfl (j := 0) rfl ?_
  refine at_get C (K := RX8) (T := TX8) (N := 18) (ci := 7) (v := .int (S.1 7 0)) iw_X8_here_X8 0 mW_c0 rfl 7 (by decide) lk_X8_here_0 rfl dX8_here_1 ?_
  refine at_aload_n C dX8_here_4 rfl (j := 0) rfl ?_
  refine at_get C (K := RX8) (T := TX8) (N := 18) (ci := 7) (v := .ref (ad 6)) iw_X8_here_X8 0 mW_c0 rfl 6 (by decide) lk_X8_here_1 rfl dX8_here_5 ?_
  refine at_iload_n C dX8_here_8 rfl (j := 1) rfl ?_
  refine at_iald C 6 mW_c6 h.1 dX8_here_9 ?_
  replace h := h.2
  have hq := h.1
  replace h := h.2
  have K : At X 2 (mW X.E ad S) 31 [] [.int (if S.1 6 x1.toNatClampNeg ≤ S.1 7 0 then (-1) else S.1 5 (((40 * x1) + (S.1 7 0)).toNatClampNeg))] := by
    exact at_iret C dX8_here_31 h
  replace h := hq
  refine at_icmp_ge C dX8_here_10 (tgt := 30) (by decide) (fun hc0 => ?_) (fun hc0 => ?_)
  · skip
    refine at_iconst C dX8_here_30 (v := (-1)) rfl ?_
    refine at_lv [] rfl ?_
    first | (simp only [if_pos hc0] at K; exact K) | exact K
  · replace h := h hc0
    refine at_aload_n C dX8_here_13 rfl (j := 0) rfl ?_
    refine at_get C (K := RX8) (T := TX8) (N := 18) (ci := 7) (v := .ref (ad 5)) iw_X8_here_X8 0 mW_c0 rfl 5 (by decide) lk_X8_here_2 rfl dX8_here_14 ?_
    refine at_bipush C dX8_here_17 (v := 40) rfl ?_
    refine at_iload_n C dX8_here_19 rfl (j := 1) rfl ?_
    refine at_imul C dX8_here_20 ?_
    refine at_aload_n C dX8_here_21 rfl (j := 0) rfl ?_
    refine at_get C (K := RX8) (T := TX8) (N := 18) (ci := 7) (v := .int (S.1 7 0)) iw_X8_here_X8 0 mW_c0 rfl 7 (by decide) lk_X8_here_0 rfl dX8_here_22 ?_
    refine at_iadd C dX8_here_25 ?_
    refine at_iald C 5 mW_c5 h dX8_here_26 ?_
    refine at_goto C dX8_here_27 (tgt := 31) (by decide) ?_
    refine at_lv [] rfl ?_
    first | (simp only [if_neg hc0] at K; exact K) | exact K
def f_X8_here (S : MS) (x1 : Int32) : Int32 := (if S.1 6 x1.toNatClampNeg ≤ S.1 7 0 then (-1) else S.1 5 (((40 * x1) + (S.1 7 0)).toNatClampNeg))
def p_X8_here (S : MS) (x1 : Int32) : Prop := (vp_in x1 2) ∧ (((¬ S.1 6 x1.toNatClampNeg ≤ S.1 7 0) → (vp_in ((40 * x1) + (S.1 7 0)) 112)))
set_option maxRecDepth 100000 in
theorem c_X8_here (l : Launch) (D : va_G) (E : Nat → ClassId) (a1 a2 : Nat) (ad : Nat → Nat) (S : MS) (x1 : Int32) (hp : p_X8_here S x1) : Fn l D E a1 a2 yX8_here wsX8_here 0 0 [.ref (ad 0), .int x1] (mW E ad S) (some (.int (f_X8_here S x1))) (mW E ad S) := by
  refine Fn.of (cc := cX8_here) (maxL := 2) (ret := (some .int)) (own := RX8) (by decide) rfl rfl rfl (Nat.le_of_ble_eq_true rfl) (fun X h1 h2 h3 h4 h5 C hE => ?_)
  subst h1 h2 h3 h4 h5
  refine r_X8_here_0 C ad S x1 ?_
  refine ⟨hp.1, ?_⟩
  refine ⟨hp.2, ?_⟩
  simp only [f_X8_here] at hE
  exact hE
theorem dX8_noShapes_0 : decode cX8_noShapes 0 = .ok (.aload_n 0, 1) := by decide +kernel
theorem dX8_noShapes_1 : decode cX8_noShapes 1 = .ok (.iconst 0, 1) := by decide +kernel
theorem dX8_noShapes_2 : decode cX8_noShapes 2 = .ok (.putfield 90, 3) := by decide +kernel
theorem dX8_noShapes_5 : decode cX8_noShapes 5 = .ok (.aload_n 0, 1) := by decide +kernel
theorem dX8_noShapes_6 : decode cX8_noShapes 6 = .ok (.getfield 87, 3) := by decide +kernel
theorem dX8_noShapes_9 : decode cX8_noShapes 9 = .ok (.ireturn, 1) := by decide +kernel
theorem iw_X8_noShapes_X8 : ∀ w ∈ u_ws RX8 TX8 18, w ∈ wsX8_noShapes := by decide +kernel
theorem lk_X8_noShapes_0 : Cond.fieldLink RX8 90 (TX8 8).1 (TX8 8).2.1 (TX8 8).2.2.1 ∈ wsX8_noShapes := by decide +kernel
theorem lk_X8_noShapes_1 : Cond.fieldLink RX8 87 (TX8 7).1 (TX8 7).2.1 (TX8 7).2.2.1 ∈ wsX8_noShapes := by decide +kernel
set_option maxRecDepth 100000 in
theorem r_X8_noShapes_0 {X : Bn} (C : Cx X cX8_noShapes 1 RX8 wsX8_noShapes 0 0) (ad : Nat → Nat) (S : MS) (h : Ends X (some .int) (some (.int (S.1 7 0))) (mW X.E ad (pg S 8 0 0))) : At X 1 (mW X.E ad S) 0 [(0, .ref (ad 0))] [] := by
  refine at_aload_n C dX8_noShapes_0 rfl (j := 0) rfl ?_
  refine at_iconst C dX8_noShapes_1 (v := 0) rfl ?_
  refine at_put C (K := RX8) (T := TX8) (N := 18) (ci := 7) (ty := .int) iw_X8_noShapes_X8 tyX8 tyX8_ok nmX8 0 mW_c0 rfl 8 (by decide) lk_X8_noShapes_0 rfl rfl rfl rfl (Nat.le_of_ble_eq_true rfl) mW_f0_8 dX8_noShapes_2 ?_
  refine at_aload_n C dX8_noShapes_5 rfl (j := 0) rfl ?_
  refine at_get C (K := RX8) (T := TX8) (N := 18) (ci := 7) (v := .int ((pg S 8 0 0).1 7 0)) iw_X8_noShapes_X8 0 mW_c0 rfl 7 (by decide) lk_X8_noShapes_1 rfl dX8_noShapes_6 ?_
  refine at_topI (pg_o (by decide)) ?_
  exact at_iret C dX8_noShapes_9 h
def f_X8_noShapes (S : MS) : Int32 := S.1 7 0
def s_X8_noShapes (S : MS) : MS := (pg S 8 0 0)
set_option maxRecDepth 100000 in
theorem c_X8_noShapes (l : Launch) (D : va_G) (E : Nat → ClassId) (a1 a2 : Nat) (ad : Nat → Nat) (S : MS) : Fn l D E a1 a2 yX8_noShapes wsX8_noShapes 0 0 [.ref (ad 0)] (mW E ad S) (some (.int (f_X8_noShapes S))) (mW E ad (s_X8_noShapes S)) := by
  refine Fn.of (cc := cX8_noShapes) (maxL := 1) (ret := (some .int)) (own := RX8) (by decide) rfl rfl (sameM _ _ _ _) (Nat.le_of_ble_eq_true rfl) (fun X h1 h2 h3 h4 h5 C hE => ?_)
  subst h1 h2 h3 h4 h5
  refine r_X8_noShapes_0 C ad S ?_
  simp only [f_X8_noShapes, s_X8_noShapes] at hE
  exact hE
theorem dX8_bitOf_0 : decode cX8_bitOf 0 = .ok (.bipush 15, 2) := by decide +kernel
theorem dX8_bitOf_2 : decode cX8_bitOf 2 = .ok (.iconst 4, 1) := by decide +kernel
theorem dX8_bitOf_3 : decode cX8_bitOf 3 = .ok (.iload_n 0, 1) := by decide +kernel
theorem dX8_bitOf_4 : decode cX8_bitOf 4 = .ok (.imul, 1) := by decide +kernel
theorem dX8_bitOf_5 : decode cX8_bitOf 5 = .ok (.isub, 1) := by decide +kernel
theorem dX8_bitOf_6 : decode cX8_bitOf 6 = .ok (.iload_n 1, 1) := by decide +kernel
theorem dX8_bitOf_7 : decode cX8_bitOf 7 = .ok (.isub, 1) := by decide +kernel
theorem dX8_bitOf_8 : decode cX8_bitOf 8 = .ok (.ireturn, 1) := by decide +kernel
set_option maxRecDepth 100000 in
theorem r_X8_bitOf_0 {X : Bn} (C : Cx X cX8_bitOf 2 RX8 wsX8_bitOf 0 0) {ws : va_W} (x0 : Int32) (x1 : Int32) (h : Ends X (some .int) (some (.int ((15 - (4 * x0)) - x1))) (ws)) : At X 2 (ws) 0 [(0, .int x0), (1, .int x1)] [] := by
  refine at_bipush C dX8_bitOf_0 (v := 15) rfl ?_
  refine at_iconst C dX8_bitOf_2 (v := 4) rfl ?_
  refine at_iload_n C dX8_bitOf_3 rfl (j := 0) rfl ?_
  refine at_imul C dX8_bitOf_4 ?_
  refine at_isub C dX8_bitOf_5 ?_
  refine at_iload_n C dX8_bitOf_6 rfl (j := 1) rfl ?_
  refine at_isub C dX8_bitOf_7 ?_
  exact at_iret C dX8_bitOf_8 h
def f_X8_bitOf (x0 : Int32) (x1 : Int32) : Int32 := (15 - (4 * x0)) - x1
set_option maxRecDepth 100000 in
theorem c_X8_bitOf (l : Launch) (D : va_G) (E : Nat → ClassId) (a1 a2 : Nat) (x0 : Int32) (x1 : Int32) : Fn l D E a1 a2 yX8_bitOf wsX8_bitOf 0 0 [.int x0, .int x1] ([]) (some (.int (f_X8_bitOf x0 x1))) ([]) := by
  refine Fn.of (cc := cX8_bitOf) (maxL := 2) (ret := (some .int)) (own := RX8) (by decide) rfl rfl rfl (Nat.le_of_ble_eq_true rfl) (fun X h1 h2 h3 h4 h5 C hE => ?_)
  subst h1 h2 h3 h4 h5
  refine r_X8_bitOf_0 C x0 x1 ?_
  simp only [f_X8_bitOf] at hE
  exact hE
set_option maxRecDepth 20000 in
theorem ggX8_isTurn_X8_in : GoodIn wsX8_isTurn wsX8_in := goodIn_r _ [5] (by decide +kernel) (by decide +kernel)
set_option maxRecDepth 20000 in
theorem gX8_isTurn_X8_in : GoodIn wsX8_isTurn (va_wsS RX8 53 yX8_in wsX8_in) := goodIn_app (goodIn_of _ (by decide +kernel)) ggX8_isTurn_X8_in
theorem dX8_isTurn_0 : decode cX8_isTurn 0 = .ok (.iload_n 0, 1) := by decide +kernel
theorem dX8_isTurn_1 : decode cX8_isTurn 1 = .ok (.i2l, 1) := by decide +kernel
theorem dX8_isTurn_2 : decode cX8_isTurn 2 = .ok (.lconst 0, 1) := by decide +kernel
theorem dX8_isTurn_3 : decode cX8_isTurn 3 = .ok (.ldc2_w 61, 3) := by decide +kernel
theorem dX8_isTurn_6 : decode cX8_isTurn 6 = .ok (.invokestatic 53, 3) := by decide +kernel
theorem dX8_isTurn_9 : decode cX8_isTurn 9 = .ok (.ireturn, 1) := by decide +kernel
theorem lk_X8_isTurn_0 : Cond.constantLong RX8 61 3 ∈ wsX8_isTurn := by decide +kernel
set_option maxRecDepth 100000 in
theorem r_X8_isTurn_0 {X : Bn} (C : Cx X cX8_isTurn 1 RX8 wsX8_isTurn 1 25) {ws : va_W} (x0 : Int32) (h : Ends X (some .boolean) (some (.int (b2i (f_X8_in x0.toInt64 (0 : Int64) (3 : Int64))))) (ws)) : At X 1 (ws) 0 [(0, .int x0)] [] := by
  refine at_iload_n C dX8_isTurn_0 rfl (j := 0) rfl ?_
  refine at_i2l C dX8_isTurn_1 ?_
  refine at_lconst C dX8_isTurn_2 (v := 0) rfl ?_
  refine at_ldc2 C lk_X8_isTurn_0 dX8_isTurn_3 ?_
  refine at_cS0 C 3 (c_X8_in X.l X.D X.E X.a1 X.a2 x0.toInt64 (0 : Int64) (3 : Int64)) gX8_isTurn_X8_in rfl (by decide +kernel) ⟨rfl, rfl⟩ rfl rfl rfl dX8_isTurn_6 ?_
  exact at_zret C dX8_isTurn_9 (b2i_nar _) h
def f_X8_isTurn (x0 : Int32) : Bool := (f_X8_in x0.toInt64 (0 : Int64) (3 : Int64))
set_option maxRecDepth 100000 in
theorem c_X8_isTurn (l : Launch) (D : va_G) (E : Nat → ClassId) (a1 a2 : Nat) (x0 : Int32) : Fn l D E a1 a2 yX8_isTurn wsX8_isTurn 1 25 [.int x0] ([]) (some (.int (b2i (f_X8_isTurn x0)))) ([]) := by
  refine Fn.of (cc := cX8_isTurn) (maxL := 1) (ret := (some .boolean)) (own := RX8) (by decide) rfl rfl rfl (Nat.le_of_ble_eq_true rfl) (fun X h1 h2 h3 h4 h5 C hE => ?_)
  subst h1 h2 h3 h4 h5
  refine r_X8_isTurn_0 C x0 ?_
  simp only [f_X8_isTurn, b2i_t, b2i_f] at hE
  exact hE
set_option maxRecDepth 20000 in
theorem ggX8_isPlace_X8_in : GoodIn wsX8_isPlace wsX8_in := goodIn_r _ [5] (by decide +kernel) (by decide +kernel)
set_option maxRecDepth 20000 in
theorem gX8_isPlace_X8_in : GoodIn wsX8_isPlace (va_wsS RX8 53 yX8_in wsX8_in) := goodIn_app (goodIn_of _ (by decide +kernel)) ggX8_isPlace_X8_in
theorem dX8_isPlace_0 : decode cX8_isPlace 0 = .ok (.iload_n 0, 1) := by decide +kernel
theorem dX8_isPlace_1 : decode cX8_isPlace 1 = .ok (.i2l, 1) := by decide +kernel
theorem dX8_isPlace_2 : decode cX8_isPlace 2 = .ok (.lconst 0, 1) := by decide +kernel
theorem dX8_isPlace_3 : decode cX8_isPlace 3 = .ok (.ldc2_w 184, 3) := by decide +kernel
theorem dX8_isPlace_6 : decode cX8_isPlace 6 = .ok (.invokestatic 53, 3) := by decide +kernel
theorem dX8_isPlace_9 : decode cX8_isPlace 9 = .ok (.ireturn, 1) := by decide +kernel
theorem lk_X8_isPlace_0 : Cond.constantLong RX8 184 63 ∈ wsX8_isPlace := by decide +kernel
set_option maxRecDepth 100000 in
theorem r_X8_isPlace_0 {X : Bn} (C : Cx X cX8_isPlace 1 RX8 wsX8_isPlace 1 25) {ws : va_W} (x0 : Int32) (h : Ends X (some .boolean) (some (.int (b2i (f_X8_in x0.toInt64 (0 : Int64) (63 : Int64))))) (ws)) : At X 1 (ws) 0 [(0, .int x0)] [] := by
  refine at_iload_n C dX8_isPlace_0 rfl (j := 0) rfl ?_
  refine at_i2l C dX8_isPlace_1 ?_
  refine at_lconst C dX8_isPlace_2 (v := 0) rfl ?_
  refine at_ldc2 C lk_X8_isPlace_0 dX8_isPlace_3 ?_
  refine at_cS0 C 3 (c_X8_in X.l X.D X.E X.a1 X.a2 x0.toInt64 (0 : Int64) (63 : Int64)) gX8_isPlace_X8_in rfl (by decide +kernel) ⟨rfl, rfl⟩ rfl rfl rfl dX8_isPlace_6 ?_
  exact at_zret C dX8_isPlace_9 (b2i_nar _) h
def f_X8_isPlace (x0 : Int32) : Bool := (f_X8_in x0.toInt64 (0 : Int64) (63 : Int64))
set_option maxRecDepth 100000 in
theorem c_X8_isPlace (l : Launch) (D : va_G) (E : Nat → ClassId) (a1 a2 : Nat) (x0 : Int32) : Fn l D E a1 a2 yX8_isPlace wsX8_isPlace 1 25 [.int x0] ([]) (some (.int (b2i (f_X8_isPlace x0)))) ([]) := by
  refine Fn.of (cc := cX8_isPlace) (maxL := 1) (ret := (some .boolean)) (own := RX8) (by decide) rfl rfl rfl (Nat.le_of_ble_eq_true rfl) (fun X h1 h2 h3 h4 h5 C hE => ?_)
  subst h1 h2 h3 h4 h5
  refine r_X8_isPlace_0 C x0 ?_
  simp only [f_X8_isPlace, b2i_t, b2i_f] at hE
  exact hE
set_option maxRecDepth 20000 in
theorem ggX8_isShape_X8_in : GoodIn wsX8_isShape wsX8_in := goodIn_r _ [5] (by decide +kernel) (by decide +kernel)
set_option maxRecDepth 20000 in
theorem gX8_isShape_X8_in : GoodIn wsX8_isShape (va_wsS RX8 53 yX8_in wsX8_in) := goodIn_app (goodIn_of _ (by decide +kernel)) ggX8_isShape_X8_in
theorem dX8_isShape_0 : decode cX8_isShape 0 = .ok (.iload_n 1, 1) := by decide +kernel
theorem dX8_isShape_1 : decode cX8_isShape 1 = .ok (.i2l, 1) := by decide +kernel
theorem dX8_isShape_2 : decode cX8_isShape 2 = .ok (.lconst 0, 1) := by decide +kernel
theorem dX8_isShape_3 : decode cX8_isShape 3 = .ok (.aload_n 0, 1) := by decide +kernel
theorem dX8_isShape_4 : decode cX8_isShape 4 = .ok (.getfield 90, 3) := by decide +kernel
theorem dX8_isShape_7 : decode cX8_isShape 7 = .ok (.iconst 1, 1) := by decide +kernel
theorem dX8_isShape_8 : decode cX8_isShape 8 = .ok (.isub, 1) := by decide +kernel
theorem dX8_isShape_9 : decode cX8_isShape 9 = .ok (.i2l, 1) := by decide +kernel
theorem dX8_isShape_10 : decode cX8_isShape 10 = .ok (.invokestatic 53, 3) := by decide +kernel
theorem dX8_isShape_13 : decode cX8_isShape 13 = .ok (.ireturn, 1) := by decide +kernel
theorem iw_X8_isShape_X8 : ∀ w ∈ u_ws RX8 TX8 18, w ∈ wsX8_isShape := by decide +kernel
theorem lk_X8_isShape_0 : Cond.fieldLink RX8 90 (TX8 8).1 (TX8 8).2.1 (TX8 8).2.2.1 ∈ wsX8_isShape := by decide +kernel
set_option maxRecDepth 100000 in
theorem r_X8_isShape_0 {X : Bn} (C : Cx X cX8_isShape 2 RX8 wsX8_isShape 1 25) (ad : Nat → Nat) (S : MS) (x1 : Int32) (h : Ends X (some .boolean) (some (.int (b2i (f_X8_in x1.toInt64 (0 : Int64) (((S.1 8 0) - 1).toInt64))))) (mW X.E ad S)) : At X 2 (mW X.E ad S) 0 [(0, .ref (ad 0)), (1, .int x1)] [] := by
  refine at_iload_n C dX8_isShape_0 rfl (j := 1) rfl ?_
  refine at_i2l C dX8_isShape_1 ?_
  refine at_lconst C dX8_isShape_2 (v := 0) rfl ?_
  refine at_aload_n C dX8_isShape_3 rfl (j := 0) rfl ?_
  refine at_get C (K := RX8) (T := TX8) (N := 18) (ci := 7) (v := .int (S.1 8 0)) iw_X8_isShape_X8 0 mW_c0 rfl 8 (by decide) lk_X8_isShape_0 rfl dX8_isShape_4 ?_
  refine at_iconst C dX8_isShape_7 (v := 1) rfl ?_
  refine at_isub C dX8_isShape_8 ?_
  refine at_i2l C dX8_isShape_9 ?_
  refine at_cS0 C 3 (c_X8_in X.l X.D X.E X.a1 X.a2 x1.toInt64 (0 : Int64) (((S.1 8 0) - 1).toInt64)) gX8_isShape_X8_in rfl (by decide +kernel) ⟨rfl, rfl⟩ rfl rfl rfl dX8_isShape_10 ?_
  exact at_zret C dX8_isShape_13 (b2i_nar _) h
def f_X8_isShape (S : MS) (x1 : Int32) : Bool := (f_X8_in x1.toInt64 (0 : Int64) (((S.1 8 0) - 1).toInt64))
set_option maxRecDepth 100000 in
theorem c_X8_isShape (l : Launch) (D : va_G) (E : Nat → ClassId) (a1 a2 : Nat) (ad : Nat → Nat) (S : MS) (x1 : Int32) : Fn l D E a1 a2 yX8_isShape wsX8_isShape 1 25 [.ref (ad 0), .int x1] (mW E ad S) (some (.int (b2i (f_X8_isShape S x1)))) (mW E ad S) := by
  refine Fn.of (cc := cX8_isShape) (maxL := 2) (ret := (some .boolean)) (own := RX8) (by decide) rfl rfl rfl (Nat.le_of_ble_eq_true rfl) (fun X h1 h2 h3 h4 h5 C hE => ?_)
  subst h1 h2 h3 h4 h5
  refine r_X8_isShape_0 C ad S x1 ?_
  simp only [f_X8_isShape, b2i_t, b2i_f] at hE
  exact hE
set_option maxRecDepth 20000 in
theorem ggX8_isCell_X8_in : GoodIn wsX8_isCell wsX8_in := goodIn_r _ [5] (by decide +kernel) (by decide +kernel)
set_option maxRecDepth 20000 in
theorem gX8_isCell_X8_in : GoodIn wsX8_isCell (va_wsS RX8 53 yX8_in wsX8_in) := goodIn_app (goodIn_of _ (by decide +kernel)) ggX8_isCell_X8_in
set_option maxRecDepth 20000 in
theorem ggX8_isCell_X8_bitOf : GoodIn wsX8_isCell wsX8_bitOf := goodIn_r _ [8] (by decide +kernel) (by decide +kernel)
set_option maxRecDepth 20000 in
theorem gX8_isCell_X8_bitOf : GoodIn wsX8_isCell (va_wsS RX8 124 yX8_bitOf wsX8_bitOf) := goodIn_app (goodIn_of _ (by decide +kernel)) ggX8_isCell_X8_bitOf
set_option maxRecDepth 20000 in
theorem ggX8_isCell_X8_isIn : GoodIn wsX8_isCell wsX8_isIn := goodIn_r _ [11] (by decide +kernel) (by decide +kernel)
set_option maxRecDepth 20000 in
theorem gX8_isCell_X8_isIn : GoodIn wsX8_isCell (va_wsS RX8 152 yX8_isIn wsX8_isIn) := goodIn_app (goodIn_of _ (by decide +kernel)) ggX8_isCell_X8_isIn
theorem dX8_isCell_0 : decode cX8_isCell 0 = .ok (.iload_n 1, 1) := by decide +kernel
theorem dX8_isCell_1 : decode cX8_isCell 1 = .ok (.i2l, 1) := by decide +kernel
theorem dX8_isCell_2 : decode cX8_isCell 2 = .ok (.lconst 0, 1) := by decide +kernel
theorem dX8_isCell_3 : decode cX8_isCell 3 = .ok (.ldc2_w 61, 3) := by decide +kernel
theorem dX8_isCell_6 : decode cX8_isCell 6 = .ok (.invokestatic 53, 3) := by decide +kernel
theorem dX8_isCell_9 : decode cX8_isCell 9 = .ok (.ifCond .eq 31, 3) := by decide +kernel
theorem dX8_isCell_12 : decode cX8_isCell 12 = .ok (.iload_n 2, 1) := by decide +kernel
theorem dX8_isCell_13 : decode cX8_isCell 13 = .ok (.i2l, 1) := by decide +kernel
theorem dX8_isCell_14 : decode cX8_isCell 14 = .ok (.lconst 0, 1) := by decide +kernel
theorem dX8_isCell_15 : decode cX8_isCell 15 = .ok (.ldc2_w 61, 3) := by decide +kernel
theorem dX8_isCell_18 : decode cX8_isCell 18 = .ok (.invokestatic 53, 3) := by decide +kernel
theorem dX8_isCell_21 : decode cX8_isCell 21 = .ok (.ifCond .eq 19, 3) := by decide +kernel
theorem dX8_isCell_24 : decode cX8_isCell 24 = .ok (.iload_n 0, 1) := by decide +kernel
theorem dX8_isCell_25 : decode cX8_isCell 25 = .ok (.iload_n 1, 1) := by decide +kernel
theorem dX8_isCell_26 : decode cX8_isCell 26 = .ok (.iload_n 2, 1) := by decide +kernel
theorem dX8_isCell_27 : decode cX8_isCell 27 = .ok (.invokestatic 124, 3) := by decide +kernel
theorem dX8_isCell_30 : decode cX8_isCell 30 = .ok (.invokestatic 152, 3) := by decide +kernel
theorem dX8_isCell_33 : decode cX8_isCell 33 = .ok (.ifCond .eq 7, 3) := by decide +kernel
theorem dX8_isCell_36 : decode cX8_isCell 36 = .ok (.iconst 1, 1) := by decide +kernel
theorem dX8_isCell_37 : decode cX8_isCell 37 = .ok (.goto 4, 3) := by decide +kernel
theorem dX8_isCell_40 : decode cX8_isCell 40 = .ok (.iconst 0, 1) := by decide +kernel
theorem dX8_isCell_41 : decode cX8_isCell 41 = .ok (.ireturn, 1) := by decide +kernel
theorem lk_X8_isCell_0 : Cond.constantLong RX8 61 3 ∈ wsX8_isCell := by decide +kernel
set_option maxRecDepth 100000 in
theorem r_X8_isCell_0 {X : Bn} (C : Cx X cX8_isCell 3 RX8 wsX8_isCell 1 25) {ws : va_W} (x0 : Int32) (x1 : Int32) (x2 : Int32) (h : Ends X (some .boolean) (some (.int (b2i (if (f_X8_in x1.toInt64 (0 : Int64) (3 : Int64)) then (if (f_X8_in x2.toInt64 (0 : Int64) (3 : Int64)) then (if (f_X8_isIn x0 (f_X8_bitOf x1 x2)) then true else false) else false) else false)))) (ws)) : At X 3 (ws) 0 [(0, .int x0), (1, .int x1), (2, .int x2)] [] := by
  refine at_iload_n C dX8_isCell_0 rfl (j := 1) rfl ?_
  refine at_i2l C dX8_isCell_1 ?_
  refine at_lconst C dX8_isCell_2 (v := 0) rfl ?_
  refine at_ldc2 C lk_X8_isCell_0 dX8_isCell_3 ?_
  refine at_cS0 C 3 (c_X8_in X.l X.D X.E X.a1 X.a2 x1.toInt64 (0 : Int64) (3 : Int64)) gX8_isCell_X8_in rfl (by decide +kernel) ⟨rfl, rfl⟩ rfl rfl rfl dX8_isCell_6 ?_
  have K : At X 3 (ws) 41 [] [.int (b2i (if (f_X8_in x1.toInt64 (0 : Int64) (3 : Int64)) then (if (f_X8_in x2.toInt64 (0 : Int64) (3 : Int64)) then (if (f_X8_isIn x0 (f_X8_bitOf x1 x2)) then true else false) else false) else false))] := by
    exact at_zret C dX8_isCell_41 (b2i_nar _) h
  refine at_ifB_eq C dX8_isCell_9 (tgt := 40) (by decide) (fun hc0 => ?_) (fun hc0 => ?_)
  · skip
    refine at_iconst C dX8_isCell_40 (v := 0) rfl ?_
    refine at_lv [] rfl ?_
    first | (simp only [if_neg (show ¬ (f_X8_in x1.toInt64 (0 : Int64) (3 : Int64)) = true by rw [hc0]; decide)] at K; exact K) | exact K
  · skip
    refine at_iload_n C dX8_isCell_12 rfl (j := 2) rfl ?_
    refine at_i2l C dX8_isCell_13 ?_
    refine at_lconst C dX8_isCell_14 (v := 0) rfl ?_
    refine at_ldc2 C lk_X8_isCell_0 dX8_isCell_15 ?_
    refine at_cS0 C 3 (c_X8_in X.l X.D X.E X.a1 X.a2 x2.toInt64 (0 : Int64) (3 : Int64)) gX8_isCell_X8_in rfl (by decide +kernel) ⟨rfl, rfl⟩ rfl rfl rfl dX8_isCell_18 ?_
    refine at_ifB_eq C dX8_isCell_21 (tgt := 40) (by decide) (fun hc1 => ?_) (fun hc1 => ?_)
    · skip
      refine at_iconst C dX8_isCell_40 (v := 0) rfl ?_
      refine at_lv [] rfl ?_
      first | (simp only [if_pos hc0, if_neg (show ¬ (f_X8_in x2.toInt64 (0 : Int64) (3 : Int64)) = true by rw [hc1]; decide)] at K; exact K) | exact K
    · skip
      refine at_iload_n C dX8_isCell_24 rfl (j := 0) rfl ?_
      refine at_iload_n C dX8_isCell_25 rfl (j := 1) rfl ?_
      refine at_iload_n C dX8_isCell_26 rfl (j := 2) rfl ?_
      refine at_cS0 C 2 (c_X8_bitOf X.l X.D X.E X.a1 X.a2 x1 x2) gX8_isCell_X8_bitOf rfl (by decide +kernel) ⟨rfl, rfl⟩ rfl rfl rfl dX8_isCell_27 ?_
      refine at_cS0 C 2 (c_X8_isIn X.l X.D X.E X.a1 X.a2 x0 (f_X8_bitOf x1 x2)) gX8_isCell_X8_isIn rfl (by decide +kernel) ⟨rfl, rfl⟩ rfl rfl rfl dX8_isCell_30 ?_
      refine at_ifB_eq C dX8_isCell_33 (tgt := 40) (by decide) (fun hc2 => ?_) (fun hc2 => ?_)
      · skip
        refine at_iconst C dX8_isCell_40 (v := 0) rfl ?_
        refine at_lv [] rfl ?_
        first | (simp only [if_pos hc0, if_pos hc1, if_neg (show ¬ (f_X8_isIn x0 (f_X8_bitOf x1 x2)) = true by rw [hc2]; decide)] at K; exact K) | exact K
      · skip
        refine at_iconst C dX8_isCell_36 (v := 1) rfl ?_
        refine at_goto C dX8_isCell_37 (tgt := 41) (by decide) ?_
        refine at_lv [] rfl ?_
        first | (simp only [if_pos hc0, if_pos hc1, if_pos hc2] at K; exact K) | exact K
def f_X8_isCell (x0 : Int32) (x1 : Int32) (x2 : Int32) : Bool := (if (f_X8_in x1.toInt64 (0 : Int64) (3 : Int64)) then (if (f_X8_in x2.toInt64 (0 : Int64) (3 : Int64)) then (if (f_X8_isIn x0 (f_X8_bitOf x1 x2)) then true else false) else false) else false)
set_option maxRecDepth 100000 in
theorem c_X8_isCell (l : Launch) (D : va_G) (E : Nat → ClassId) (a1 a2 : Nat) (x0 : Int32) (x1 : Int32) (x2 : Int32) : Fn l D E a1 a2 yX8_isCell wsX8_isCell 1 25 [.int x0, .int x1, .int x2] ([]) (some (.int (b2i (f_X8_isCell x0 x1 x2)))) ([]) := by
  refine Fn.of (cc := cX8_isCell) (maxL := 3) (ret := (some .boolean)) (own := RX8) (by decide) rfl rfl rfl (Nat.le_of_ble_eq_true rfl) (fun X h1 h2 h3 h4 h5 C hE => ?_)
  subst h1 h2 h3 h4 h5
  refine r_X8_isCell_0 C x0 x1 x2 ?_
  simp only [f_X8_isCell, b2i_t, b2i_f] at hE
  exact hE
set_option maxRecDepth 20000 in
theorem ggX8_covers_X8_isCell : GoodIn wsX8_covers wsX8_isCell := goodIn_r _ [4, 5, 6, 7, 3, 8, 9, 10, 11, 12, 13, 14] (by decide +kernel) (by decide +kernel)
set_option maxRecDepth 20000 in
theorem gX8_covers_X8_isCell : GoodIn wsX8_covers (va_wsS RX8 159 yX8_isCell wsX8_isCell) := goodIn_app (goodIn_of _ (by decide +kernel)) ggX8_covers_X8_isCell
theorem dX8_covers_0 : decode cX8_covers 0 = .ok (.iload_n 0, 1) := by decide +kernel
theorem dX8_covers_1 : decode cX8_covers 1 = .ok (.iload_n 2, 1) := by decide +kernel
theorem dX8_covers_2 : decode cX8_covers 2 = .ok (.bipush 8, 2) := by decide +kernel
theorem dX8_covers_4 : decode cX8_covers 4 = .ok (.idiv, 1) := by decide +kernel
theorem dX8_covers_5 : decode cX8_covers 5 = .ok (.iload_n 1, 1) := by decide +kernel
theorem dX8_covers_6 : decode cX8_covers 6 = .ok (.bipush 8, 2) := by decide +kernel
theorem dX8_covers_8 : decode cX8_covers 8 = .ok (.idiv, 1) := by decide +kernel
theorem dX8_covers_9 : decode cX8_covers 9 = .ok (.isub, 1) := by decide +kernel
theorem dX8_covers_10 : decode cX8_covers 10 = .ok (.iload_n 2, 1) := by decide +kernel
theorem dX8_covers_11 : decode cX8_covers 11 = .ok (.bipush 8, 2) := by decide +kernel
theorem dX8_covers_13 : decode cX8_covers 13 = .ok (.irem, 1) := by decide +kernel
theorem dX8_covers_14 : decode cX8_covers 14 = .ok (.iload_n 1, 1) := by decide +kernel
theorem dX8_covers_15 : decode cX8_covers 15 = .ok (.bipush 8, 2) := by decide +kernel
theorem dX8_covers_17 : decode cX8_covers 17 = .ok (.irem, 1) := by decide +kernel
theorem dX8_covers_18 : decode cX8_covers 18 = .ok (.isub, 1) := by decide +kernel
theorem dX8_covers_19 : decode cX8_covers 19 = .ok (.invokestatic 159, 3) := by decide +kernel
theorem dX8_covers_22 : decode cX8_covers 22 = .ok (.ireturn, 1) := by decide +kernel
set_option maxRecDepth 100000 in
theorem r_X8_covers_0 {X : Bn} (C : Cx X cX8_covers 3 RX8 wsX8_covers 2 47) {ws : va_W} (x0 : Int32) (x1 : Int32) (x2 : Int32) (h : Ends X (some .boolean) (some (.int (b2i (f_X8_isCell x0 ((x2 / 8) - (x1 / 8)) ((irm x2 8) - (irm x1 8)))))) (ws)) : At X 3 (ws) 0 [(0, .int x0), (1, .int x1), (2, .int x2)] [] := by
  refine at_iload_n C dX8_covers_0 rfl (j := 0) rfl ?_
  refine at_iload_n C dX8_covers_1 rfl (j := 2) rfl ?_
  refine at_bipush C dX8_covers_2 (v := 8) rfl ?_
  refine at_idiv C dX8_covers_4 (by decide) ?_
  refine at_iload_n C dX8_covers_5 rfl (j := 1) rfl ?_
  refine at_bipush C dX8_covers_6 (v := 8) rfl ?_
  refine at_idiv C dX8_covers_8 (by decide) ?_
  refine at_isub C dX8_covers_9 ?_
  refine at_iload_n C dX8_covers_10 rfl (j := 2) rfl ?_
  refine at_bipush C dX8_covers_11 (v := 8) rfl ?_
  refine at_irem C dX8_covers_13 (by decide) ?_
  refine at_iload_n C dX8_covers_14 rfl (j := 1) rfl ?_
  refine at_bipush C dX8_covers_15 (v := 8) rfl ?_
  refine at_irem C dX8_covers_17 (by decide) ?_
  refine at_isub C dX8_covers_18 ?_
  refine at_cS0 C 3 (c_X8_isCell X.l X.D X.E X.a1 X.a2 x0 ((x2 / 8) - (x1 / 8)) ((irm x2 8) - (irm x1 8))) gX8_covers_X8_isCell rfl (by decide +kernel) ⟨rfl, rfl⟩ rfl rfl rfl dX8_covers_19 ?_
  exact at_zret C dX8_covers_22 (b2i_nar _) h
def f_X8_covers (x0 : Int32) (x1 : Int32) (x2 : Int32) : Bool := (f_X8_isCell x0 ((x2 / 8) - (x1 / 8)) ((irm x2 8) - (irm x1 8)))
set_option maxRecDepth 100000 in
theorem c_X8_covers (l : Launch) (D : va_G) (E : Nat → ClassId) (a1 a2 : Nat) (x0 : Int32) (x1 : Int32) (x2 : Int32) : Fn l D E a1 a2 yX8_covers wsX8_covers 2 47 [.int x0, .int x1, .int x2] ([]) (some (.int (b2i (f_X8_covers x0 x1 x2)))) ([]) := by
  refine Fn.of (cc := cX8_covers) (maxL := 3) (ret := (some .boolean)) (own := RX8) (by decide) rfl rfl rfl (Nat.le_of_ble_eq_true rfl) (fun X h1 h2 h3 h4 h5 C hE => ?_)
  subst h1 h2 h3 h4 h5
  refine r_X8_covers_0 C x0 x1 x2 ?_
  simp only [f_X8_covers, b2i_t, b2i_f] at hE
  exact hE
set_option maxRecDepth 20000 in
theorem ggX8_isTold_X8_in : GoodIn wsX8_isTold wsX8_in := goodIn_r _ [6] (by decide +kernel) (by decide +kernel)
set_option maxRecDepth 20000 in
theorem gX8_isTold_X8_in : GoodIn wsX8_isTold (va_wsS RX8 53 yX8_in wsX8_in) := goodIn_app (goodIn_of _ (by decide +kernel)) ggX8_isTold_X8_in
theorem dX8_isTold_0 : decode cX8_isTold 0 = .ok (.iload_n 0, 1) := by decide +kernel
theorem dX8_isTold_1 : decode cX8_isTold 1 = .ok (.i2l, 1) := by decide +kernel
theorem dX8_isTold_2 : decode cX8_isTold 2 = .ok (.ldc2_w 259, 3) := by decide +kernel
theorem dX8_isTold_5 : decode cX8_isTold 5 = .ok (.ldc2_w 195, 3) := by decide +kernel
theorem dX8_isTold_8 : decode cX8_isTold 8 = .ok (.invokestatic 53, 3) := by decide +kernel
theorem dX8_isTold_11 : decode cX8_isTold 11 = .ok (.ireturn, 1) := by decide +kernel
theorem lk_X8_isTold_0 : Cond.constantLong RX8 259 (-1) ∈ wsX8_isTold := by decide +kernel
theorem lk_X8_isTold_1 : Cond.constantLong RX8 195 7 ∈ wsX8_isTold := by decide +kernel
set_option maxRecDepth 100000 in
theorem r_X8_isTold_0 {X : Bn} (C : Cx X cX8_isTold 1 RX8 wsX8_isTold 1 25) {ws : va_W} (x0 : Int32) (h : Ends X (some .boolean) (some (.int (b2i (f_X8_in x0.toInt64 ((-1) : Int64) (7 : Int64))))) (ws)) : At X 1 (ws) 0 [(0, .int x0)] [] := by
  refine at_iload_n C dX8_isTold_0 rfl (j := 0) rfl ?_
  refine at_i2l C dX8_isTold_1 ?_
  refine at_ldc2 C lk_X8_isTold_0 dX8_isTold_2 ?_
  refine at_ldc2 C lk_X8_isTold_1 dX8_isTold_5 ?_
  refine at_cS0 C 3 (c_X8_in X.l X.D X.E X.a1 X.a2 x0.toInt64 ((-1) : Int64) (7 : Int64)) gX8_isTold_X8_in rfl (by decide +kernel) ⟨rfl, rfl⟩ rfl rfl rfl dX8_isTold_8 ?_
  exact at_zret C dX8_isTold_11 (b2i_nar _) h
def f_X8_isTold (x0 : Int32) : Bool := (f_X8_in x0.toInt64 ((-1) : Int64) (7 : Int64))
set_option maxRecDepth 100000 in
theorem c_X8_isTold (l : Launch) (D : va_G) (E : Nat → ClassId) (a1 a2 : Nat) (x0 : Int32) : Fn l D E a1 a2 yX8_isTold wsX8_isTold 1 25 [.int x0] ([]) (some (.int (b2i (f_X8_isTold x0)))) ([]) := by
  refine Fn.of (cc := cX8_isTold) (maxL := 1) (ret := (some .boolean)) (own := RX8) (by decide) rfl rfl rfl (Nat.le_of_ble_eq_true rfl) (fun X h1 h2 h3 h4 h5 C hE => ?_)
  subst h1 h2 h3 h4 h5
  refine r_X8_isTold_0 C x0 ?_
  simp only [f_X8_isTold, b2i_t, b2i_f] at hE
  exact hE
set_option maxRecDepth 20000 in
theorem ggX8_seen_X8_in : GoodIn wsX8_seen wsX8_in := goodIn_r _ [8] (by decide +kernel) (by decide +kernel)
set_option maxRecDepth 20000 in
theorem gX8_seen_X8_in : GoodIn wsX8_seen (va_wsS RX8 53 yX8_in wsX8_in) := goodIn_app (goodIn_of _ (by decide +kernel)) ggX8_seen_X8_in
theorem dX8_seen_0 : decode cX8_seen 0 = .ok (.iload_n 1, 1) := by decide +kernel
theorem dX8_seen_1 : decode cX8_seen 1 = .ok (.i2l, 1) := by decide +kernel
theorem dX8_seen_2 : decode cX8_seen 2 = .ok (.lconst 0, 1) := by decide +kernel
theorem dX8_seen_3 : decode cX8_seen 3 = .ok (.ldc2_w 61, 3) := by decide +kernel
theorem dX8_seen_6 : decode cX8_seen 6 = .ok (.invokestatic 53, 3) := by decide +kernel
theorem dX8_seen_9 : decode cX8_seen 9 = .ok (.ifCond .eq 15, 3) := by decide +kernel
theorem dX8_seen_12 : decode cX8_seen 12 = .ok (.iload_n 2, 1) := by decide +kernel
theorem dX8_seen_13 : decode cX8_seen 13 = .ok (.i2l, 1) := by decide +kernel
theorem dX8_seen_14 : decode cX8_seen 14 = .ok (.lconst 0, 1) := by decide +kernel
theorem dX8_seen_15 : decode cX8_seen 15 = .ok (.ldc2_w 222, 3) := by decide +kernel
theorem dX8_seen_18 : decode cX8_seen 18 = .ok (.invokestatic 53, 3) := by decide +kernel
theorem dX8_seen_21 : decode cX8_seen 21 = .ok (.ifCond .ne 6, 3) := by decide +kernel
theorem dX8_seen_24 : decode cX8_seen 24 = .ok (.bipush (-2), 2) := by decide +kernel
theorem dX8_seen_26 : decode cX8_seen 26 = .ok (.ireturn, 1) := by decide +kernel
theorem dX8_seen_27 : decode cX8_seen 27 = .ok (.aload_n 0, 1) := by decide +kernel
theorem dX8_seen_28 : decode cX8_seen 28 = .ok (.getfield 224, 3) := by decide +kernel
theorem dX8_seen_31 : decode cX8_seen 31 = .ok (.bipush 8, 2) := by decide +kernel
theorem dX8_seen_33 : decode cX8_seen 33 = .ok (.if_icmp .ne 6, 3) := by decide +kernel
theorem dX8_seen_36 : decode cX8_seen 36 = .ok (.bipush (-4), 2) := by decide +kernel
theorem dX8_seen_38 : decode cX8_seen 38 = .ok (.ireturn, 1) := by decide +kernel
theorem dX8_seen_39 : decode cX8_seen 39 = .ok (.aload_n 0, 1) := by decide +kernel
theorem dX8_seen_40 : decode cX8_seen 40 = .ok (.getfield 41, 3) := by decide +kernel
theorem dX8_seen_43 : decode cX8_seen 43 = .ok (.iconst 2, 1) := by decide +kernel
theorem dX8_seen_44 : decode cX8_seen 44 = .ok (.aload_n 0, 1) := by decide +kernel
theorem dX8_seen_45 : decode cX8_seen 45 = .ok (.getfield 224, 3) := by decide +kernel
theorem dX8_seen_48 : decode cX8_seen 48 = .ok (.imul, 1) := by decide +kernel
theorem dX8_seen_49 : decode cX8_seen 49 = .ok (.iload_n 1, 1) := by decide +kernel
theorem dX8_seen_50 : decode cX8_seen 50 = .ok (.iastore, 1) := by decide +kernel
theorem dX8_seen_51 : decode cX8_seen 51 = .ok (.aload_n 0, 1) := by decide +kernel
theorem dX8_seen_52 : decode cX8_seen 52 = .ok (.getfield 41, 3) := by decide +kernel
theorem dX8_seen_55 : decode cX8_seen 55 = .ok (.iconst 2, 1) := by decide +kernel
theorem dX8_seen_56 : decode cX8_seen 56 = .ok (.aload_n 0, 1) := by decide +kernel
theorem dX8_seen_57 : decode cX8_seen 57 = .ok (.getfield 224, 3) := by decide +kernel
theorem dX8_seen_60 : decode cX8_seen 60 = .ok (.imul, 1) := by decide +kernel
theorem dX8_seen_61 : decode cX8_seen 61 = .ok (.iconst 1, 1) := by decide +kernel
theorem dX8_seen_62 : decode cX8_seen 62 = .ok (.iadd, 1) := by decide +kernel
theorem dX8_seen_63 : decode cX8_seen 63 = .ok (.iload_n 2, 1) := by decide +kernel
theorem dX8_seen_64 : decode cX8_seen 64 = .ok (.iastore, 1) := by decide +kernel
theorem dX8_seen_65 : decode cX8_seen 65 = .ok (.aload_n 0, 1) := by decide +kernel
theorem dX8_seen_66 : decode cX8_seen 66 = .ok (.dup, 1) := by decide +kernel
theorem dX8_seen_67 : decode cX8_seen 67 = .ok (.getfield 224, 3) := by decide +kernel
theorem dX8_seen_70 : decode cX8_seen 70 = .ok (.iconst 1, 1) := by decide +kernel
theorem dX8_seen_71 : decode cX8_seen 71 = .ok (.iadd, 1) := by decide +kernel
theorem dX8_seen_72 : decode cX8_seen 72 = .ok (.putfield 224, 3) := by decide +kernel
theorem dX8_seen_75 : decode cX8_seen 75 = .ok (.aload_n 0, 1) := by decide +kernel
theorem dX8_seen_76 : decode cX8_seen 76 = .ok (.getfield 224, 3) := by decide +kernel
theorem dX8_seen_79 : decode cX8_seen 79 = .ok (.ireturn, 1) := by decide +kernel
theorem iw_X8_seen_X8 : ∀ w ∈ u_ws RX8 TX8 18, w ∈ wsX8_seen := by decide +kernel
theorem lk_X8_seen_0 : Cond.constantLong RX8 61 3 ∈ wsX8_seen := by decide +kernel
theorem lk_X8_seen_1 : Cond.constantLong RX8 222 624 ∈ wsX8_seen := by decide +kernel
theorem lk_X8_seen_2 : Cond.fieldLink RX8 224 (TX8 14).1 (TX8 14).2.1 (TX8 14).2.2.1 ∈ wsX8_seen := by decide +kernel
theorem lk_X8_seen_3 : Cond.fieldLink RX8 41 (TX8 15).1 (TX8 15).2.1 (TX8 15).2.2.1 ∈ wsX8_seen := by decide +kernel
set_option maxRecDepth 100000 in
theorem r_X8_seen_0 {X : Bn} (C : Cx X cX8_seen 3 RX8 wsX8_seen 1 25) (ad : Nat → Nat) (S : MS) (x1 : Int32) (x2 : Int32) (h : (((f_X8_in x1.toInt64 (0 : Int64) (3 : Int64)) = true) → ((((f_X8_in x2.toInt64 (0 : Int64) (624 : Int64)) = true) → (((S.1 14 0 = 8) → (Ends X (some .int) (some (.int (-4))) (mW X.E ad S))) ∧ (¬ S.1 14 0 = 8 → ((vp_in (2 * (S.1 14 0)) 16) ∧ ((vp_in ((2 * (S.1 14 0)) + 1) 16) ∧ (Ends X (some .int) (some (.int ((S.1 14 0) + 1))) (mW X.E ad (pg (pg (pg S 15 ((2 * (S.1 14 0)).toNatClampNeg) x1) 15 (((2 * (S.1 14 0)) + 1).toNatClampNeg) x2) 14 0 ((S.1 14 0) + 1))))))))) ∧ ((f_X8_in x2.toInt64 (0 : Int64) (624 : Int64)) = false → (Ends X (some .int) (some (.int (-2))) (mW X.E ad S))))) ∧ ((f_X8_in x1.toInt64 (0 : Int64) (3 : Int64)) = false → (Ends X (some .int) (some (.int (-2))) (mW X.E ad S)))) : At X 3 (mW X.E ad S) 0 [(0, .ref (ad 0)), (1, .int x1), (2, .int x2)] [] := by
  refine at_iload_n C dX8_seen_0 rfl (j := 1) rfl ?_
  refine at_i2l C dX8_seen_1 ?_
  refine at_lconst C dX8_seen_2 (v := 0) rfl ?_
  refine at_ldc2 C lk_X8_seen_0 dX8_seen_3 ?_
  refine at_cS0 C 3 (c_X8_in X.l X.D X.E X.a1 X.a2 x1.toInt64 (0 : Int64) (3 : Int64)) gX8_seen_X8_in rfl (by decide +kernel) ⟨rfl, rfl⟩ rfl rfl rfl dX8_seen_6 ?_
  refine at_ifB_eq C dX8_seen_9 (tgt := 24) (by decide) (fun hc3 => ?_) (fun hc3 => ?_)
  · replace h := h.2 hc3
    refine at_bipush C dX8_seen_24 (v := (-2)) rfl ?_
    exact at_iret C dX8_seen_26 h
  · replace h := h.1 hc3
    refine at_iload_n C dX8_seen_12 rfl (j := 2) rfl ?_
    refine at_i2l C dX8_seen_13 ?_
    refine at_lconst C dX8_seen_14 (v := 0) rfl ?_
    refine at_ldc2 C lk_X8_seen_1 dX8_seen_15 ?_
    refine at_cS0 C 3 (c_X8_in X.l X.D X.E X.a1 X.a2 x2.toInt64 (0 : Int64) (624 : Int64)) gX8_seen_X8_in rfl (by decide +kernel) ⟨rfl, rfl⟩ rfl rfl rfl dX8_seen_18 ?_
    refine at_ifB_ne C dX8_seen_21 (tgt := 27) (by decide) (fun hc4 => ?_) (fun hc4 => ?_)
    · replace h := h.1 hc4
      refine at_aload_n C dX8_seen_27 rfl (j := 0) rfl ?_
      refine at_get C (K := RX8) (T := TX8) (N := 18) (ci := 7) (v := .int (S.1 14 0)) iw_X8_seen_X8 0 mW_c0 rfl 14 (by decide) lk_X8_seen_2 rfl dX8_seen_28 ?_
      refine at_bipush C dX8_seen_31 (v := 8) rfl ?_
      refine at_icmp_ne C dX8_seen_33 (tgt := 39) (by decide) (fun hc5 => ?_) (fun hc5 => ?_)
      · replace h := h.2 hc5
        refine at_aload_n C dX8_seen_39 rfl (j := 0) rfl ?_
        refine at_get C (K := RX8) (T := TX8) (N := 18) (ci := 7) (v := .ref (ad 11)) iw_X8_seen_X8 0 mW_c0 rfl 15 (by decide) lk_X8_seen_3 rfl dX8_seen_40 ?_
        refine at_iconst C dX8_seen_43 (v := 2) rfl ?_
        refine at_aload_n C dX8_seen_44 rfl (j := 0) rfl ?_
        refine at_get C (K := RX8) (T := TX8) (N := 18) (ci := 7) (v := .int (S.1 14 0)) iw_X8_seen_X8 0 mW_c0 rfl 14 (by decide) lk_X8_seen_2 rfl dX8_seen_45 ?_
        refine at_imul C dX8_seen_48 ?_
        refine at_iload_n C dX8_seen_49 rfl (j := 1) rfl ?_
        refine at_iast C 11 mW_c11 h.1 mW_s11 dX8_seen_50 ?_
        replace h := h.2
        refine at_aload_n C dX8_seen_51 rfl (j := 0) rfl ?_
        refine at_get C (K := RX8) (T := TX8) (N := 18) (ci := 7) (v := .ref (ad 11)) iw_X8_seen_X8 0 mW_c0 rfl 15 (by decide) lk_X8_seen_3 rfl dX8_seen_52 ?_
        refine at_iconst C dX8_seen_55 (v := 2) rfl ?_
        refine at_aload_n C dX8_seen_56 rfl (j := 0) rfl ?_
        refine at_get C (K := RX8) (T := TX8) (N := 18) (ci := 7) (v := .int ((pg S 15 ((2 * (S.1 14 0)).toNatClampNeg) x1).1 14 0)) iw_X8_seen_X8 0 mW_c0 rfl 14 (by decide) lk_X8_seen_2 rfl dX8_seen_57 ?_
        refine at_topI (pg_o (by decide)) ?_
        refine at_imul C dX8_seen_60 ?_
        refine at_iconst C dX8_seen_61 (v := 1) rfl ?_
        refine at_iadd C dX8_seen_62 ?_
        refine at_iload_n C dX8_seen_63 rfl (j := 2) rfl ?_
        refine at_iast C 11 mW_c11 h.1 mW_s11 dX8_seen_64 ?_
        replace h := h.2
        refine at_aload_n C dX8_seen_65 rfl (j := 0) rfl ?_
        refine at_dup C dX8_seen_66 rfl ?_
        refine at_get C (K := RX8) (T := TX8) (N := 18) (ci := 7) (v := .int ((pg (pg S 15 ((2 * (S.1 14 0)).toNatClampNeg) x1) 15 (((2 * (S.1 14 0)) + 1).toNatClampNeg) x2).1 14 0)) iw_X8_seen_X8 0 mW_c0 rfl 14 (by decide) lk_X8_seen_2 rfl dX8_seen_67 ?_
        refine at_topI ((pg_o (by decide)).trans (pg_o (by decide))) ?_
        refine at_iconst C dX8_seen_70 (v := 1) rfl ?_
        refine at_iadd C dX8_seen_71 ?_
        refine at_put C (K := RX8) (T := TX8) (N := 18) (ci := 7) (ty := .int) iw_X8_seen_X8 tyX8 tyX8_ok nmX8 0 mW_c0 rfl 14 (by decide) lk_X8_seen_2 rfl rfl rfl rfl (Nat.le_of_ble_eq_true rfl) mW_f0_14 dX8_seen_72 ?_
        refine at_aload_n C dX8_seen_75 rfl (j := 0) rfl ?_
        refine at_get C (K := RX8) (T := TX8) (N := 18) (ci := 7) (v := .int ((pg (pg (pg S 15 ((2 * (S.1 14 0)).toNatClampNeg) x1) 15 (((2 * (S.1 14 0)) + 1).toNatClampNeg) x2) 14 0 ((S.1 14 0) + 1)).1 14 0)) iw_X8_seen_X8 0 mW_c0 rfl 14 (by decide) lk_X8_seen_2 rfl dX8_seen_76 ?_
        refine at_topI (pg_s) ?_
        exact at_iret C dX8_seen_79 h
      · replace h := h.1 hc5
        refine at_bipush C dX8_seen_36 (v := (-4)) rfl ?_
        exact at_iret C dX8_seen_38 h
    · replace h := h.2 hc4
      refine at_bipush C dX8_seen_24 (v := (-2)) rfl ?_
      exact at_iret C dX8_seen_26 h
def f_X8_seen (S : MS) (x1 : Int32) (x2 : Int32) : Int32 := if (f_X8_in x1.toInt64 (0 : Int64) (3 : Int64)) then (if (f_X8_in x2.toInt64 (0 : Int64) (624 : Int64)) then (if S.1 14 0 = 8 then (-4) else ((S.1 14 0) + 1)) else (-2)) else (-2)
def s_X8_seen (S : MS) (x1 : Int32) (x2 : Int32) : MS := if (f_X8_in x1.toInt64 (0 : Int64) (3 : Int64)) then (if (f_X8_in x2.toInt64 (0 : Int64) (624 : Int64)) then (if S.1 14 0 = 8 then S else (pg (pg (pg S 15 ((2 * (S.1 14 0)).toNatClampNeg) x1) 15 (((2 * (S.1 14 0)) + 1).toNatClampNeg) x2) 14 0 ((S.1 14 0) + 1))) else S) else S
def p_X8_seen (S : MS) (x1 : Int32) (x2 : Int32) : Prop := (((f_X8_in x1.toInt64 (0 : Int64) (3 : Int64)) = true) → (((f_X8_in x2.toInt64 (0 : Int64) (624 : Int64)) = true) → ((¬ S.1 14 0 = 8) → (vp_in (2 * (S.1 14 0)) 16) ∧ (vp_in ((2 * (S.1 14 0)) + 1) 16))))
set_option maxRecDepth 100000 in
theorem c_X8_seen (l : Launch) (D : va_G) (E : Nat → ClassId) (a1 a2 : Nat) (ad : Nat → Nat) (S : MS) (x1 : Int32) (x2 : Int32) (hp : p_X8_seen S x1 x2) : Fn l D E a1 a2 yX8_seen wsX8_seen 1 25 [.ref (ad 0), .int x1, .int x2] (mW E ad S) (some (.int (f_X8_seen S x1 x2))) (mW E ad (s_X8_seen S x1 x2)) := by
  refine Fn.of (cc := cX8_seen) (maxL := 3) (ret := (some .int)) (own := RX8) (by decide) rfl rfl (sameM _ _ _ _) (Nat.le_of_ble_eq_true rfl) (fun X h1 h2 h3 h4 h5 C hE => ?_)
  subst h1 h2 h3 h4 h5
  refine r_X8_seen_0 C ad S x1 x2 ?_
  refine ⟨fun hc0 => ?_, fun hc0 => ?_⟩
  · refine ⟨fun hc1 => ?_, fun hc1 => ?_⟩
    · refine ⟨fun hc2 => ?_, fun hc2 => ?_⟩
      · simp only [f_X8_seen, s_X8_seen, if_pos hc0, if_pos hc1, if_pos hc2] at hE
        exact hE
      · refine ⟨(((hp hc0) hc1) hc2).1, ?_⟩
        refine ⟨(((hp hc0) hc1) hc2).2, ?_⟩
        simp only [f_X8_seen, s_X8_seen, if_pos hc0, if_pos hc1, if_neg hc2] at hE
        exact hE
    · simp only [f_X8_seen, s_X8_seen, if_pos hc0, if_neg (show ¬ (f_X8_in x2.toInt64 (0 : Int64) (624 : Int64)) = true by rw [hc1]; decide)] at hE
      exact hE
  · simp only [f_X8_seen, s_X8_seen, if_neg (show ¬ (f_X8_in x1.toInt64 (0 : Int64) (3 : Int64)) = true by rw [hc0]; decide)] at hE
    exact hE
theorem dX8_forget_0 : decode cX8_forget 0 = .ok (.aload_n 0, 1) := by decide +kernel
theorem dX8_forget_1 : decode cX8_forget 1 = .ok (.getfield 224, 3) := by decide +kernel
theorem dX8_forget_4 : decode cX8_forget 4 = .ok (.istore_n 1, 1) := by decide +kernel
theorem dX8_forget_5 : decode cX8_forget 5 = .ok (.aload_n 0, 1) := by decide +kernel
theorem dX8_forget_6 : decode cX8_forget 6 = .ok (.iconst 0, 1) := by decide +kernel
theorem dX8_forget_7 : decode cX8_forget 7 = .ok (.putfield 224, 3) := by decide +kernel
theorem dX8_forget_10 : decode cX8_forget 10 = .ok (.iload_n 1, 1) := by decide +kernel
theorem dX8_forget_11 : decode cX8_forget 11 = .ok (.ireturn, 1) := by decide +kernel
theorem iw_X8_forget_X8 : ∀ w ∈ u_ws RX8 TX8 18, w ∈ wsX8_forget := by decide +kernel
theorem lk_X8_forget_0 : Cond.fieldLink RX8 224 (TX8 14).1 (TX8 14).2.1 (TX8 14).2.2.1 ∈ wsX8_forget := by decide +kernel
set_option maxRecDepth 100000 in
theorem r_X8_forget_0 {X : Bn} (C : Cx X cX8_forget 2 RX8 wsX8_forget 0 0) (ad : Nat → Nat) (S : MS) (h : Ends X (some .int) (some (.int (S.1 14 0))) (mW X.E ad (pg S 14 0 0))) : At X 2 (mW X.E ad S) 0 [(0, .ref (ad 0))] [] := by
  refine at_aload_n C dX8_forget_0 rfl (j := 0) rfl ?_
  refine at_get C (K := RX8) (T := TX8) (N := 18) (ci := 7) (v := .int (S.1 14 0)) iw_X8_forget_X8 0 mW_c0 rfl 14 (by decide) lk_X8_forget_0 rfl dX8_forget_1 ?_
  refine at_istore_n C dX8_forget_4 rfl (by decide) (lv' := [(1, .int (S.1 14 0)), (0, .ref (ad 0))]) rfl ?_
  refine at_aload_n C dX8_forget_5 rfl (j := 1) rfl ?_
  refine at_iconst C dX8_forget_6 (v := 0) rfl ?_
  refine at_put C (K := RX8) (T := TX8) (N := 18) (ci := 7) (ty := .int) iw_X8_forget_X8 tyX8 tyX8_ok nmX8 0 mW_c0 rfl 14 (by decide) lk_X8_forget_0 rfl rfl rfl rfl (Nat.le_of_ble_eq_true rfl) mW_f0_14 dX8_forget_7 ?_
  refine at_iload_n C dX8_forget_10 rfl (j := 0) rfl ?_
  exact at_iret C dX8_forget_11 h
def f_X8_forget (S : MS) : Int32 := S.1 14 0
def s_X8_forget (S : MS) : MS := (pg S 14 0 0)
set_option maxRecDepth 100000 in
theorem c_X8_forget (l : Launch) (D : va_G) (E : Nat → ClassId) (a1 a2 : Nat) (ad : Nat → Nat) (S : MS) : Fn l D E a1 a2 yX8_forget wsX8_forget 0 0 [.ref (ad 0)] (mW E ad S) (some (.int (f_X8_forget S))) (mW E ad (s_X8_forget S)) := by
  refine Fn.of (cc := cX8_forget) (maxL := 2) (ret := (some .int)) (own := RX8) (by decide) rfl rfl (sameM _ _ _ _) (Nat.le_of_ble_eq_true rfl) (fun X h1 h2 h3 h4 h5 C hE => ?_)
  subst h1 h2 h3 h4 h5
  refine r_X8_forget_0 C ad S ?_
  simp only [f_X8_forget, s_X8_forget] at hE
  exact hE
set_option maxRecDepth 20000 in
theorem ggX8_isFree_X8_isPlace : GoodIn wsX8_isFree wsX8_isPlace := goodIn_r _ [5, 6, 7, 8, 4, 9] (by decide +kernel) (by decide +kernel)
set_option maxRecDepth 20000 in
theorem gX8_isFree_X8_isPlace : GoodIn wsX8_isFree (va_wsS RX8 186 yX8_isPlace wsX8_isPlace) := goodIn_app (goodIn_of _ (by decide +kernel)) ggX8_isFree_X8_isPlace
theorem dX8_isFree_0 : decode cX8_isFree 0 = .ok (.iload_n 1, 1) := by decide +kernel
theorem dX8_isFree_1 : decode cX8_isFree 1 = .ok (.invokestatic 186, 3) := by decide +kernel
theorem dX8_isFree_4 : decode cX8_isFree 4 = .ok (.ifCond .eq 16, 3) := by decide +kernel
theorem dX8_isFree_7 : decode cX8_isFree 7 = .ok (.aload_n 0, 1) := by decide +kernel
theorem dX8_isFree_8 : decode cX8_isFree 8 = .ok (.getfield 31, 3) := by decide +kernel
theorem dX8_isFree_11 : decode cX8_isFree 11 = .ok (.iload_n 1, 1) := by decide +kernel
theorem dX8_isFree_12 : decode cX8_isFree 12 = .ok (.baload, 1) := by decide +kernel
theorem dX8_isFree_13 : decode cX8_isFree 13 = .ok (.ifCond .eq 7, 3) := by decide +kernel
theorem dX8_isFree_16 : decode cX8_isFree 16 = .ok (.iconst 1, 1) := by decide +kernel
theorem dX8_isFree_17 : decode cX8_isFree 17 = .ok (.goto 4, 3) := by decide +kernel
theorem dX8_isFree_20 : decode cX8_isFree 20 = .ok (.iconst 0, 1) := by decide +kernel
theorem dX8_isFree_21 : decode cX8_isFree 21 = .ok (.ireturn, 1) := by decide +kernel
theorem iw_X8_isFree_X8 : ∀ w ∈ u_ws RX8 TX8 18, w ∈ wsX8_isFree := by decide +kernel
theorem lk_X8_isFree_0 : Cond.fieldLink RX8 31 (TX8 10).1 (TX8 10).2.1 (TX8 10).2.2.1 ∈ wsX8_isFree := by decide +kernel
set_option maxRecDepth 100000 in
theorem r_X8_isFree_0 {X : Bn} (C : Cx X cX8_isFree 2 RX8 wsX8_isFree 2 45) (ad : Nat → Nat) (S : MS) (x1 : Int32) (h : ((((f_X8_isPlace x1) = true) → (vp_in x1 64))) ∧ (Ends X (some .boolean) (some (.int (b2i (if (f_X8_isPlace x1) then (if S.1 10 x1.toNatClampNeg = 0 then false else true) else false)))) (mW X.E ad S))) : At X 2 (mW X.E ad S) 0 [(0, .ref (ad 0)), (1, .int x1)] [] := by
  refine at_iload_n C dX8_isFree_0 rfl (j := 1) rfl ?_
  refine at_cS0 C 1 (c_X8_isPlace X.l X.D X.E X.a1 X.a2 x1) gX8_isFree_X8_isPlace rfl (by decide +kernel) ⟨rfl, rfl⟩ rfl rfl rfl dX8_isFree_1 ?_
  have hq := h.1
  replace h := h.2
  have K : At X 2 (mW X.E ad S) 21 [] [.int (b2i (if (f_X8_isPlace x1) then (if S.1 10 x1.toNatClampNeg = 0 then false else true) else false))] := by
    exact at_zret C dX8_isFree_21 (b2i_nar _) h
  replace h := hq
  refine at_ifB_eq C dX8_isFree_4 (tgt := 20) (by decide) (fun hc0 => ?_) (fun hc0 => ?_)
  · skip
    refine at_iconst C dX8_isFree_20 (v := 0) rfl ?_
    refine at_lv [] rfl ?_
    first | (simp only [if_neg (show ¬ (f_X8_isPlace x1) = true by rw [hc0]; decide)] at K; exact K) | exact K
  · replace h := h hc0
    refine at_aload_n C dX8_isFree_7 rfl (j := 0) rfl ?_
    refine at_get C (K := RX8) (T := TX8) (N := 18) (ci := 7) (v := .ref (ad 8)) iw_X8_isFree_X8 0 mW_c0 rfl 10 (by decide) lk_X8_isFree_0 rfl dX8_isFree_8 ?_
    refine at_iload_n C dX8_isFree_11 rfl (j := 1) rfl ?_
    refine at_zald C 8 mW_c8 h dX8_isFree_12 ?_
    refine at_if_eq C dX8_isFree_13 (tgt := 20) (by decide) (fun hc1 => ?_) (fun hc1 => ?_)
    · skip
      refine at_iconst C dX8_isFree_20 (v := 0) rfl ?_
      refine at_lv [] rfl ?_
      first | (simp only [if_pos hc0, if_pos hc1] at K; exact K) | exact K
    · skip
      refine at_iconst C dX8_isFree_16 (v := 1) rfl ?_
      refine at_goto C dX8_isFree_17 (tgt := 21) (by decide) ?_
      refine at_lv [] rfl ?_
      first | (simp only [if_pos hc0, if_neg hc1] at K; exact K) | exact K
def f_X8_isFree (S : MS) (x1 : Int32) : Bool := (if (f_X8_isPlace x1) then (if S.1 10 x1.toNatClampNeg = 0 then false else true) else false)
def p_X8_isFree (S : MS) (x1 : Int32) : Prop := ((((f_X8_isPlace x1) = true) → (vp_in x1 64)))
set_option maxRecDepth 100000 in
theorem c_X8_isFree (l : Launch) (D : va_G) (E : Nat → ClassId) (a1 a2 : Nat) (ad : Nat → Nat) (S : MS) (x1 : Int32) (hp : p_X8_isFree S x1) : Fn l D E a1 a2 yX8_isFree wsX8_isFree 2 45 [.ref (ad 0), .int x1] (mW E ad S) (some (.int (b2i (f_X8_isFree S x1)))) (mW E ad S) := by
  refine Fn.of (cc := cX8_isFree) (maxL := 2) (ret := (some .boolean)) (own := RX8) (by decide) rfl rfl rfl (Nat.le_of_ble_eq_true rfl) (fun X h1 h2 h3 h4 h5 C hE => ?_)
  subst h1 h2 h3 h4 h5
  refine r_X8_isFree_0 C ad S x1 ?_
  refine ⟨hp, ?_⟩
  simp only [f_X8_isFree, b2i_t, b2i_f] at hE
  exact hE
set_option maxRecDepth 20000 in
theorem ggX8_beside_X8_in : GoodIn wsX8_beside wsX8_in := goodIn_r _ [6] (by decide +kernel) (by decide +kernel)
set_option maxRecDepth 20000 in
theorem gX8_beside_X8_in : GoodIn wsX8_beside (va_wsS RX8 53 yX8_in wsX8_in) := goodIn_app (goodIn_of _ (by decide +kernel)) ggX8_beside_X8_in
theorem dX8_beside_0 : decode cX8_beside 0 = .ok (.iload_n 1, 1) := by decide +kernel
theorem dX8_beside_1 : decode cX8_beside 1 = .ok (.bipush 8, 2) := by decide +kernel
theorem dX8_beside_3 : decode cX8_beside 3 = .ok (.idiv, 1) := by decide +kernel
theorem dX8_beside_4 : decode cX8_beside 4 = .ok (.iload_n 2, 1) := by decide +kernel
theorem dX8_beside_5 : decode cX8_beside 5 = .ok (.ifCond .ne 7, 3) := by decide +kernel
theorem dX8_beside_8 : decode cX8_beside 8 = .ok (.iconst (-1), 1) := by decide +kernel
theorem dX8_beside_9 : decode cX8_beside 9 = .ok (.goto 13, 3) := by decide +kernel
theorem dX8_beside_12 : decode cX8_beside 12 = .ok (.iload_n 2, 1) := by decide +kernel
theorem dX8_beside_13 : decode cX8_beside 13 = .ok (.iconst 2, 1) := by decide +kernel
theorem dX8_beside_14 : decode cX8_beside 14 = .ok (.if_icmp .ne 7, 3) := by decide +kernel
theorem dX8_beside_17 : decode cX8_beside 17 = .ok (.iconst 1, 1) := by decide +kernel
theorem dX8_beside_18 : decode cX8_beside 18 = .ok (.goto 4, 3) := by decide +kernel
theorem dX8_beside_21 : decode cX8_beside 21 = .ok (.iconst 0, 1) := by decide +kernel
theorem dX8_beside_22 : decode cX8_beside 22 = .ok (.iadd, 1) := by decide +kernel
theorem dX8_beside_23 : decode cX8_beside 23 = .ok (.istore_n 3, 1) := by decide +kernel
theorem dX8_beside_24 : decode cX8_beside 24 = .ok (.iload_n 1, 1) := by decide +kernel
theorem dX8_beside_25 : decode cX8_beside 25 = .ok (.bipush 8, 2) := by decide +kernel
theorem dX8_beside_27 : decode cX8_beside 27 = .ok (.irem, 1) := by decide +kernel
theorem dX8_beside_28 : decode cX8_beside 28 = .ok (.iload_n 2, 1) := by decide +kernel
theorem dX8_beside_29 : decode cX8_beside 29 = .ok (.iconst 1, 1) := by decide +kernel
theorem dX8_beside_30 : decode cX8_beside 30 = .ok (.if_icmp .ne 7, 3) := by decide +kernel
theorem dX8_beside_33 : decode cX8_beside 33 = .ok (.iconst 1, 1) := by decide +kernel
theorem dX8_beside_34 : decode cX8_beside 34 = .ok (.goto 13, 3) := by decide +kernel
theorem dX8_beside_37 : decode cX8_beside 37 = .ok (.iload_n 2, 1) := by decide +kernel
theorem dX8_beside_38 : decode cX8_beside 38 = .ok (.iconst 3, 1) := by decide +kernel
theorem dX8_beside_39 : decode cX8_beside 39 = .ok (.if_icmp .ne 7, 3) := by decide +kernel
theorem dX8_beside_42 : decode cX8_beside 42 = .ok (.iconst (-1), 1) := by decide +kernel
theorem dX8_beside_43 : decode cX8_beside 43 = .ok (.goto 4, 3) := by decide +kernel
theorem dX8_beside_46 : decode cX8_beside 46 = .ok (.iconst 0, 1) := by decide +kernel
theorem dX8_beside_47 : decode cX8_beside 47 = .ok (.iadd, 1) := by decide +kernel
theorem dX8_beside_48 : decode cX8_beside 48 = .ok (.istore 4, 2) := by decide +kernel
theorem dX8_beside_50 : decode cX8_beside 50 = .ok (.iload_n 3, 1) := by decide +kernel
theorem dX8_beside_51 : decode cX8_beside 51 = .ok (.i2l, 1) := by decide +kernel
theorem dX8_beside_52 : decode cX8_beside 52 = .ok (.lconst 0, 1) := by decide +kernel
theorem dX8_beside_53 : decode cX8_beside 53 = .ok (.ldc2_w 195, 3) := by decide +kernel
theorem dX8_beside_56 : decode cX8_beside 56 = .ok (.invokestatic 53, 3) := by decide +kernel
theorem dX8_beside_59 : decode cX8_beside 59 = .ok (.ifCond .eq 41, 3) := by decide +kernel
theorem dX8_beside_62 : decode cX8_beside 62 = .ok (.iload 4, 2) := by decide +kernel
theorem dX8_beside_64 : decode cX8_beside 64 = .ok (.i2l, 1) := by decide +kernel
theorem dX8_beside_65 : decode cX8_beside 65 = .ok (.lconst 0, 1) := by decide +kernel
theorem dX8_beside_66 : decode cX8_beside 66 = .ok (.ldc2_w 195, 3) := by decide +kernel
theorem dX8_beside_69 : decode cX8_beside 69 = .ok (.invokestatic 53, 3) := by decide +kernel
theorem dX8_beside_72 : decode cX8_beside 72 = .ok (.ifCond .eq 28, 3) := by decide +kernel
theorem dX8_beside_75 : decode cX8_beside 75 = .ok (.aload_n 0, 1) := by decide +kernel
theorem dX8_beside_76 : decode cX8_beside 76 = .ok (.getfield 31, 3) := by decide +kernel
theorem dX8_beside_79 : decode cX8_beside 79 = .ok (.bipush 8, 2) := by decide +kernel
theorem dX8_beside_81 : decode cX8_beside 81 = .ok (.iload_n 3, 1) := by decide +kernel
theorem dX8_beside_82 : decode cX8_beside 82 = .ok (.imul, 1) := by decide +kernel
theorem dX8_beside_83 : decode cX8_beside 83 = .ok (.iload 4, 2) := by decide +kernel
theorem dX8_beside_85 : decode cX8_beside 85 = .ok (.iadd, 1) := by decide +kernel
theorem dX8_beside_86 : decode cX8_beside 86 = .ok (.baload, 1) := by decide +kernel
theorem dX8_beside_87 : decode cX8_beside 87 = .ok (.ifCond .eq 13, 3) := by decide +kernel
theorem dX8_beside_90 : decode cX8_beside 90 = .ok (.bipush 8, 2) := by decide +kernel
theorem dX8_beside_92 : decode cX8_beside 92 = .ok (.iload_n 3, 1) := by decide +kernel
theorem dX8_beside_93 : decode cX8_beside 93 = .ok (.imul, 1) := by decide +kernel
theorem dX8_beside_94 : decode cX8_beside 94 = .ok (.iload 4, 2) := by decide +kernel
theorem dX8_beside_96 : decode cX8_beside 96 = .ok (.iadd, 1) := by decide +kernel
theorem dX8_beside_97 : decode cX8_beside 97 = .ok (.goto 4, 3) := by decide +kernel
theorem dX8_beside_100 : decode cX8_beside 100 = .ok (.iconst (-1), 1) := by decide +kernel
theorem dX8_beside_101 : decode cX8_beside 101 = .ok (.ireturn, 1) := by decide +kernel
theorem iw_X8_beside_X8 : ∀ w ∈ u_ws RX8 TX8 18, w ∈ wsX8_beside := by decide +kernel
theorem lk_X8_beside_0 : Cond.constantLong RX8 195 7 ∈ wsX8_beside := by decide +kernel
theorem lk_X8_beside_1 : Cond.fieldLink RX8 31 (TX8 10).1 (TX8 10).2.1 (TX8 10).2.2.1 ∈ wsX8_beside := by decide +kernel
set_option maxRecDepth 100000 in
theorem r_X8_beside_0 {X : Bn} (C : Cx X cX8_beside 5 RX8 wsX8_beside 1 25) (ad : Nat → Nat) (S : MS) (x1 : Int32) (x2 : Int32) (h : ((((f_X8_in (((x1 / 8) + (if x2 = 0 then (-1) else (if x2 = 2 then 1 else 0))).toInt64) (0 : Int64) (7 : Int64)) = true) → (((f_X8_in (((irm x1 8) + (if x2 = 1 then 1 else (if x2 = 3 then (-1) else 0))).toInt64) (0 : Int64) (7 : Int64)) = true) → (vp_in ((8 * ((x1 / 8) + (if x2 = 0 then (-1) else (if x2 = 2 then 1 else 0)))) + ((irm x1 8) + (if x2 = 1 then 1 else (if x2 = 3 then (-1) else 0)))) 64)))) ∧ (Ends X (some .int) (some (.int (if (f_X8_in (((x1 / 8) + (if x2 = 0 then (-1) else (if x2 = 2 then 1 else 0))).toInt64) (0 : Int64) (7 : Int64)) then (if (f_X8_in (((irm x1 8) + (if x2 = 1 then 1 else (if x2 = 3 then (-1) else 0))).toInt64) (0 : Int64) (7 : Int64)) then (if S.1 10 (((8 * ((x1 / 8) + (if x2 = 0 then (-1) else (if x2 = 2 then 1 else 0)))) + ((irm x1 8) + (if x2 = 1 then 1 else (if x2 = 3 then (-1) else 0)))).toNatClampNeg) = 0 then (-1) else (8 * ((x1 / 8) + (if x2 = 0 then (-1) else (if x2 = 2 then 1 else 0)))) + ((irm x1 8) + (if x2 = 1 then 1 else (if x2 = 3 then (-1) else 0)))) else (-1)) else (-1)))) (mW X.E ad S))) : At X 5 (mW X.E ad S) 0 [(0, .ref (ad 0)), (1, .int x1), (2, .int x2)] [] := by
  refine at_iload_n C dX8_beside_0 rfl (j := 1) rfl ?_
  refine at_bipush C dX8_beside_1 (v := 8) rfl ?_
  refine at_idiv C dX8_beside_3 (by decide) ?_
  refine at_iload_n C dX8_beside_4 rfl (j := 2) rfl ?_
  have K : At X 5 (mW X.E ad S) 22 [(0, .ref (ad 0)), (1, .int x1), (2, .int x2)] [.int (if x2 = 0 then (-1) else (if x2 = 2 then 1 else 0)), .int (x1 / 8)] := by
    refine at_iadd C dX8_beside_22 ?_
    refine at_istore_n C dX8_beside_23 rfl (by decide) (lv' := [(3, .int ((x1 / 8) + (if x2 = 0 then (-1) else (if x2 = 2 then 1 else 0)))), (0, .ref (ad 0)), (1, .int x1), (2, .int x2)]) rfl ?_
    refine at_iload_n C dX8_beside_24 rfl (j := 2) rfl ?_
    refine at_bipush C dX8_beside_25 (v := 8) rfl ?_
    refine at_irem C dX8_beside_27 (by decide) ?_
    refine at_iload_n C dX8_beside_28 rfl (j := 3) rfl ?_
    refine at_iconst C dX8_beside_29 (v := 1) rfl ?_
    have K : At X 5 (mW X.E ad S) 47 [(0, .ref (ad 0)), (3, .int ((x1 / 8) + (if x2 = 0 then (-1) else (if x2 = 2 then 1 else 0))))] [.int (if x2 = 1 then 1 else (if x2 = 3 then (-1) else 0)), .int (irm x1 8)] := by
      refine at_iadd C dX8_beside_47 ?_
      refine at_istore C dX8_beside_48 (by decide) (lv' := [(4, .int ((irm x1 8) + (if x2 = 1 then 1 else (if x2 = 3 then (-1) else 0)))), (0, .ref (ad 0)), (3, .int ((x1 / 8) + (if x2 = 0 then (-1) else (if x2 = 2 then 1 else 0))))]) rfl ?_
      refine at_iload_n C dX8_beside_50 rfl (j := 2) rfl ?_
      refine at_i2l C dX8_beside_51 ?_
      refine at_lconst C dX8_beside_52 (v := 0) rfl ?_
      refine at_ldc2 C lk_X8_beside_0 dX8_beside_53 ?_
      refine at_cS0 C 3 (c_X8_in X.l X.D X.E X.a1 X.a2 (((x1 / 8) + (if x2 = 0 then (-1) else (if x2 = 2 then 1 else 0))).toInt64) (0 : Int64) (7 : Int64)) gX8_beside_X8_in rfl (by decide +kernel) ⟨rfl, rfl⟩ rfl rfl rfl dX8_beside_56 ?_
      have hq := h.1
      replace h := h.2
      have K : At X 5 (mW X.E ad S) 101 [] [.int (if (f_X8_in (((x1 / 8) + (if x2 = 0 then (-1) else (if x2 = 2 then 1 else 0))).toInt64) (0 : Int64) (7 : Int64)) then (if (f_X8_in (((irm x1 8) + (if x2 = 1 then 1 else (if x2 = 3 then (-1) else 0))).toInt64) (0 : Int64) (7 : Int64)) then (if S.1 10 (((8 * ((x1 / 8) + (if x2 = 0 then (-1) else (if x2 = 2 then 1 else 0)))) + ((irm x1 8) + (if x2 = 1 then 1 else (if x2 = 3 then (-1) else 0)))).toNatClampNeg) = 0 then (-1) else (8 * ((x1 / 8) + (if x2 = 0 then (-1) else (if x2 = 2 then 1 else 0)))) + ((irm x1 8) + (if x2 = 1 then 1 else (if x2 = 3 then (-1) else 0)))) else (-1)) else (-1))] := by
        exact at_iret C dX8_beside_101 h
      replace h := hq
      refine at_ifB_eq C dX8_beside_59 (tgt := 100) (by decide) (fun hc0 => ?_) (fun hc0 => ?_)
      · skip
        refine at_iconst C dX8_beside_100 (v := (-1)) rfl ?_
        refine at_lv [] rfl ?_
        first | (simp only [if_neg (show ¬ (f_X8_in (((x1 / 8) + (if x2 = 0 then (-1) else (if x2 = 2 then 1 else 0))).toInt64) (0 : Int64) (7 : Int64)) = true by rw [hc0]; decide)] at K; exact K) | exact K
      · replace h := h hc0
        refine at_iload C dX8_beside_62 (j := 0) rfl ?_
        refine at_i2l C dX8_beside_64 ?_
        refine at_lconst C dX8_beside_65 (v := 0) rfl ?_
        refine at_ldc2 C lk_X8_beside_0 dX8_beside_66 ?_
        refine at_cS0 C 3 (c_X8_in X.l X.D X.E X.a1 X.a2 (((irm x1 8) + (if x2 = 1 then 1 else (if x2 = 3 then (-1) else 0))).toInt64) (0 : Int64) (7 : Int64)) gX8_beside_X8_in rfl (by decide +kernel) ⟨rfl, rfl⟩ rfl rfl rfl dX8_beside_69 ?_
        refine at_ifB_eq C dX8_beside_72 (tgt := 100) (by decide) (fun hc1 => ?_) (fun hc1 => ?_)
        · skip
          refine at_iconst C dX8_beside_100 (v := (-1)) rfl ?_
          refine at_lv [] rfl ?_
          first | (simp only [if_pos hc0, if_neg (show ¬ (f_X8_in (((irm x1 8) + (if x2 = 1 then 1 else (if x2 = 3 then (-1) else 0))).toInt64) (0 : Int64) (7 : Int64)) = true by rw [hc1]; decide)] at K; exact K) | exact K
        · replace h := h hc1
          refine at_aload_n C dX8_beside_75 rfl (j := 1) rfl ?_
          refine at_get C (K := RX8) (T := TX8) (N := 18) (ci := 7) (v := .ref (ad 8)) iw_X8_beside_X8 0 mW_c0 rfl 10 (by decide) lk_X8_beside_1 rfl dX8_beside_76 ?_
          refine at_bipush C dX8_beside_79 (v := 8) rfl ?_
          refine at_iload_n C dX8_beside_81 rfl (j := 2) rfl ?_
          refine at_imul C dX8_beside_82 ?_
          refine at_iload C dX8_beside_83 (j := 0) rfl ?_
          refine at_iadd C dX8_beside_85 ?_
          refine at_zald C 8 mW_c8 h dX8_beside_86 ?_
          refine at_if_eq C dX8_beside_87 (tgt := 100) (by decide) (fun hc2 => ?_) (fun hc2 => ?_)
          · skip
            refine at_iconst C dX8_beside_100 (v := (-1)) rfl ?_
            refine at_lv [] rfl ?_
            first | (simp only [if_pos hc0, if_pos hc1, if_pos hc2] at K; exact K) | exact K
          · skip
            refine at_bipush C dX8_beside_90 (v := 8) rfl ?_
            refine at_iload_n C dX8_beside_92 rfl (j := 2) rfl ?_
            refine at_imul C dX8_beside_93 ?_
            refine at_iload C dX8_beside_94 (j := 0) rfl ?_
            refine at_iadd C dX8_beside_96 ?_
            refine at_goto C dX8_beside_97 (tgt := 101) (by decide) ?_
            refine at_lv [] rfl ?_
            first | (simp only [if_pos hc0, if_pos hc1, if_neg hc2] at K; exact K) | exact K
    refine at_icmp_ne C dX8_beside_30 (tgt := 37) (by decide) (fun hc0 => ?_) (fun hc0 => ?_)
    · skip
      refine at_iload_n C dX8_beside_37 rfl (j := 3) rfl ?_
      refine at_iconst C dX8_beside_38 (v := 3) rfl ?_
      refine at_icmp_ne C dX8_beside_39 (tgt := 46) (by decide) (fun hc1 => ?_) (fun hc1 => ?_)
      · skip
        refine at_iconst C dX8_beside_46 (v := 0) rfl ?_
        refine at_lv [1, 0] rfl ?_
        first | (simp only [if_neg hc0, if_neg hc1] at K; exact K) | exact K
      · skip
        refine at_iconst C dX8_beside_42 (v := (-1)) rfl ?_
        refine at_goto C dX8_beside_43 (tgt := 47) (by decide) ?_
        refine at_lv [1, 0] rfl ?_
        first | (simp only [if_neg hc0, if_pos hc1] at K; exact K) | exact K
    · skip
      refine at_iconst C dX8_beside_33 (v := 1) rfl ?_
      refine at_goto C dX8_beside_34 (tgt := 47) (by decide) ?_
      refine at_lv [1, 0] rfl ?_
      first | (simp only [if_pos hc0] at K; exact K) | exact K
  refine at_if_ne C dX8_beside_5 (tgt := 12) (by decide) (fun hc0 => ?_) (fun hc0 => ?_)
  · skip
    refine at_iload_n C dX8_beside_12 rfl (j := 2) rfl ?_
    refine at_iconst C dX8_beside_13 (v := 2) rfl ?_
    refine at_icmp_ne C dX8_beside_14 (tgt := 21) (by decide) (fun hc1 => ?_) (fun hc1 => ?_)
    · skip
      refine at_iconst C dX8_beside_21 (v := 0) rfl ?_
      first | (simp only [if_neg hc0, if_neg hc1] at K; exact K) | exact K
    · skip
      refine at_iconst C dX8_beside_17 (v := 1) rfl ?_
      refine at_goto C dX8_beside_18 (tgt := 22) (by decide) ?_
      first | (simp only [if_neg hc0, if_pos hc1] at K; exact K) | exact K
  · skip
    refine at_iconst C dX8_beside_8 (v := (-1)) rfl ?_
    refine at_goto C dX8_beside_9 (tgt := 22) (by decide) ?_
    first | (simp only [if_pos hc0] at K; exact K) | exact K
def f_X8_beside (S : MS) (x1 : Int32) (x2 : Int32) : Int32 := (if (f_X8_in (((x1 / 8) + (if x2 = 0 then (-1) else (if x2 = 2 then 1 else 0))).toInt64) (0 : Int64) (7 : Int64)) then (if (f_X8_in (((irm x1 8) + (if x2 = 1 then 1 else (if x2 = 3 then (-1) else 0))).toInt64) (0 : Int64) (7 : Int64)) then (if S.1 10 (((8 * ((x1 / 8) + (if x2 = 0 then (-1) else (if x2 = 2 then 1 else 0)))) + ((irm x1 8) + (if x2 = 1 then 1 else (if x2 = 3 then (-1) else 0)))).toNatClampNeg) = 0 then (-1) else (8 * ((x1 / 8) + (if x2 = 0 then (-1) else (if x2 = 2 then 1 else 0)))) + ((irm x1 8) + (if x2 = 1 then 1 else (if x2 = 3 then (-1) else 0)))) else (-1)) else (-1))
def p_X8_beside (S : MS) (x1 : Int32) (x2 : Int32) : Prop := ((((f_X8_in (((x1 / 8) + (if x2 = 0 then (-1) else (if x2 = 2 then 1 else 0))).toInt64) (0 : Int64) (7 : Int64)) = true) → (((f_X8_in (((irm x1 8) + (if x2 = 1 then 1 else (if x2 = 3 then (-1) else 0))).toInt64) (0 : Int64) (7 : Int64)) = true) → (vp_in ((8 * ((x1 / 8) + (if x2 = 0 then (-1) else (if x2 = 2 then 1 else 0)))) + ((irm x1 8) + (if x2 = 1 then 1 else (if x2 = 3 then (-1) else 0)))) 64))))
set_option maxRecDepth 100000 in
theorem c_X8_beside (l : Launch) (D : va_G) (E : Nat → ClassId) (a1 a2 : Nat) (ad : Nat → Nat) (S : MS) (x1 : Int32) (x2 : Int32) (hp : p_X8_beside S x1 x2) : Fn l D E a1 a2 yX8_beside wsX8_beside 1 25 [.ref (ad 0), .int x1, .int x2] (mW E ad S) (some (.int (f_X8_beside S x1 x2))) (mW E ad S) := by
  refine Fn.of (cc := cX8_beside) (maxL := 5) (ret := (some .int)) (own := RX8) (by decide) rfl rfl rfl (Nat.le_of_ble_eq_true rfl) (fun X h1 h2 h3 h4 h5 C hE => ?_)
  subst h1 h2 h3 h4 h5
  refine r_X8_beside_0 C ad S x1 x2 ?_
  refine ⟨hp, ?_⟩
  simp only [f_X8_beside] at hE
  exact hE
set_option maxRecDepth 20000 in
theorem ggX8_isStand_X8_isShape : GoodIn wsX8_isStand wsX8_isShape := goodIn_r _ [5, 6, 7, 8, 4, 9, 18, 19, 20, 21, 22, 23, 24, 25, 26, 27, 28, 29, 30, 31, 32, 33, 34, 35] (by decide +kernel) (by decide +kernel)
set_option maxRecDepth 20000 in
theorem gX8_isStand_X8_isShape : GoodIn wsX8_isStand (wsV RX8 141 RX8 yX8_isShape wsX8_isShape) := goodIn_app (goodIn_of _ (by decide +kernel)) ggX8_isStand_X8_isShape
set_option maxRecDepth 20000 in
theorem ggX8_isStand_X8_isTurn : GoodIn wsX8_isStand wsX8_isTurn := goodIn_r _ [12, 13, 7, 8, 4, 9] (by decide +kernel) (by decide +kernel)
set_option maxRecDepth 20000 in
theorem gX8_isStand_X8_isTurn : GoodIn wsX8_isStand (va_wsS RX8 144 yX8_isTurn wsX8_isTurn) := goodIn_app (goodIn_of _ (by decide +kernel)) ggX8_isStand_X8_isTurn
set_option maxRecDepth 20000 in
theorem ggX8_isStand_X8_isPlace : GoodIn wsX8_isStand wsX8_isPlace := goodIn_r _ [16, 17, 7, 8, 4, 9] (by decide +kernel) (by decide +kernel)
set_option maxRecDepth 20000 in
theorem gX8_isStand_X8_isPlace : GoodIn wsX8_isStand (va_wsS RX8 186 yX8_isPlace wsX8_isPlace) := goodIn_app (goodIn_of _ (by decide +kernel)) ggX8_isStand_X8_isPlace
theorem dX8_isStand_0 : decode cX8_isStand 0 = .ok (.aload_n 0, 1) := by decide +kernel
theorem dX8_isStand_1 : decode cX8_isStand 1 = .ok (.iload_n 1, 1) := by decide +kernel
theorem dX8_isStand_2 : decode cX8_isStand 2 = .ok (.invokevirtual 141, 3) := by decide +kernel
theorem dX8_isStand_5 : decode cX8_isStand 5 = .ok (.ifCond .eq 21, 3) := by decide +kernel
theorem dX8_isStand_8 : decode cX8_isStand 8 = .ok (.iload_n 2, 1) := by decide +kernel
theorem dX8_isStand_9 : decode cX8_isStand 9 = .ok (.invokestatic 144, 3) := by decide +kernel
theorem dX8_isStand_12 : decode cX8_isStand 12 = .ok (.ifCond .eq 14, 3) := by decide +kernel
theorem dX8_isStand_15 : decode cX8_isStand 15 = .ok (.iload_n 3, 1) := by decide +kernel
theorem dX8_isStand_16 : decode cX8_isStand 16 = .ok (.invokestatic 186, 3) := by decide +kernel
theorem dX8_isStand_19 : decode cX8_isStand 19 = .ok (.ifCond .eq 7, 3) := by decide +kernel
theorem dX8_isStand_22 : decode cX8_isStand 22 = .ok (.iconst 1, 1) := by decide +kernel
theorem dX8_isStand_23 : decode cX8_isStand 23 = .ok (.goto 4, 3) := by decide +kernel
theorem dX8_isStand_26 : decode cX8_isStand 26 = .ok (.iconst 0, 1) := by decide +kernel
theorem dX8_isStand_27 : decode cX8_isStand 27 = .ok (.ireturn, 1) := by decide +kernel
set_option maxRecDepth 100000 in
theorem r_X8_isStand_0 {X : Bn} (C : Cx X cX8_isStand 4 RX8 wsX8_isStand 2 46) (ad : Nat → Nat) (S : MS) (x1 : Int32) (x2 : Int32) (x3 : Int32) (h : Ends X (some .boolean) (some (.int (b2i (if (f_X8_isShape S x1) then (if (f_X8_isTurn x2) then (if (f_X8_isPlace x3) then true else false) else false) else false)))) (mW X.E ad S)) : At X 4 (mW X.E ad S) 0 [(0, .ref (ad 0)), (1, .int x1), (2, .int x2), (3, .int x3)] [] := by
  refine at_aload_n C dX8_isStand_0 rfl (j := 0) rfl ?_
  refine at_iload_n C dX8_isStand_1 rfl (j := 1) rfl ?_
  refine at_cV1 C 1 (c_X8_isShape X.l X.D X.E X.a1 X.a2 ad S x1) gX8_isStand_X8_isShape rfl (by decide +kernel) ⟨rfl, rfl⟩ rfl rfl rfl 0 mW_c0 rfl dX8_isStand_2 ?_
  have K : At X 4 (mW X.E ad S) 27 [] [.int (b2i (if (f_X8_isShape S x1) then (if (f_X8_isTurn x2) then (if (f_X8_isPlace x3) then true else false) else false) else false))] := by
    exact at_zret C dX8_isStand_27 (b2i_nar _) h
  refine at_ifB_eq C dX8_isStand_5 (tgt := 26) (by decide) (fun hc0 => ?_) (fun hc0 => ?_)
  · skip
    refine at_iconst C dX8_isStand_26 (v := 0) rfl ?_
    refine at_lv [] rfl ?_
    first | (simp only [if_neg (show ¬ (f_X8_isShape S x1) = true by rw [hc0]; decide)] at K; exact K) | exact K
  · skip
    refine at_iload_n C dX8_isStand_8 rfl (j := 2) rfl ?_
    refine at_cS0 C 1 (c_X8_isTurn X.l X.D X.E X.a1 X.a2 x2) gX8_isStand_X8_isTurn rfl (by decide +kernel) ⟨rfl, rfl⟩ rfl rfl rfl dX8_isStand_9 ?_
    refine at_ifB_eq C dX8_isStand_12 (tgt := 26) (by decide) (fun hc1 => ?_) (fun hc1 => ?_)
    · skip
      refine at_iconst C dX8_isStand_26 (v := 0) rfl ?_
      refine at_lv [] rfl ?_
      first | (simp only [if_pos hc0, if_neg (show ¬ (f_X8_isTurn x2) = true by rw [hc1]; decide)] at K; exact K) | exact K
    · skip
      refine at_iload_n C dX8_isStand_15 rfl (j := 3) rfl ?_
      refine at_cS0 C 1 (c_X8_isPlace X.l X.D X.E X.a1 X.a2 x3) gX8_isStand_X8_isPlace rfl (by decide +kernel) ⟨rfl, rfl⟩ rfl rfl rfl dX8_isStand_16 ?_
      refine at_ifB_eq C dX8_isStand_19 (tgt := 26) (by decide) (fun hc2 => ?_) (fun hc2 => ?_)
      · skip
        refine at_iconst C dX8_isStand_26 (v := 0) rfl ?_
        refine at_lv [] rfl ?_
        first | (simp only [if_pos hc0, if_pos hc1, if_neg (show ¬ (f_X8_isPlace x3) = true by rw [hc2]; decide)] at K; exact K) | exact K
      · skip
        refine at_iconst C dX8_isStand_22 (v := 1) rfl ?_
        refine at_goto C dX8_isStand_23 (tgt := 27) (by decide) ?_
        refine at_lv [] rfl ?_
        first | (simp only [if_pos hc0, if_pos hc1, if_pos hc2] at K; exact K) | exact K
def f_X8_isStand (S : MS) (x1 : Int32) (x2 : Int32) (x3 : Int32) : Bool := (if (f_X8_isShape S x1) then (if (f_X8_isTurn x2) then (if (f_X8_isPlace x3) then true else false) else false) else false)
set_option maxRecDepth 100000 in
theorem c_X8_isStand (l : Launch) (D : va_G) (E : Nat → ClassId) (a1 a2 : Nat) (ad : Nat → Nat) (S : MS) (x1 : Int32) (x2 : Int32) (x3 : Int32) : Fn l D E a1 a2 yX8_isStand wsX8_isStand 2 46 [.ref (ad 0), .int x1, .int x2, .int x3] (mW E ad S) (some (.int (b2i (f_X8_isStand S x1 x2 x3)))) (mW E ad S) := by
  refine Fn.of (cc := cX8_isStand) (maxL := 4) (ret := (some .boolean)) (own := RX8) (by decide) rfl rfl rfl (Nat.le_of_ble_eq_true rfl) (fun X h1 h2 h3 h4 h5 C hE => ?_)
  subst h1 h2 h3 h4 h5
  refine r_X8_isStand_0 C ad S x1 x2 x3 ?_
  simp only [f_X8_isStand, b2i_t, b2i_f] at hE
  exact hE
