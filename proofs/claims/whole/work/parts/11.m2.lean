set_option maxRecDepth 20000 in
theorem ggX8_turnedOnce_X8_bitOf : GoodIn wsX8_turnedOnce wsX8_bitOf := goodIn_r _ [4] (by decide +kernel) (by decide +kernel)
set_option maxRecDepth 20000 in
theorem gX8_turnedOnce_X8_bitOf : GoodIn wsX8_turnedOnce (va_wsS RX8 124 yX8_bitOf wsX8_bitOf) := goodIn_app (goodIn_of _ (by decide +kernel)) ggX8_turnedOnce_X8_bitOf
theorem dX8_turnedOnce_0 : decode cX8_turnedOnce 0 = .ok (.iconst 0, 1) := by decide +kernel
theorem dX8_turnedOnce_1 : decode cX8_turnedOnce 1 = .ok (.istore_n 1, 1) := by decide +kernel
theorem dX8_turnedOnce_2 : decode cX8_turnedOnce 2 = .ok (.iconst 0, 1) := by decide +kernel
theorem dX8_turnedOnce_3 : decode cX8_turnedOnce 3 = .ok (.istore_n 2, 1) := by decide +kernel
theorem dX8_turnedOnce_4 : decode cX8_turnedOnce 4 = .ok (.iload_n 2, 1) := by decide +kernel
theorem dX8_turnedOnce_5 : decode cX8_turnedOnce 5 = .ok (.iconst 4, 1) := by decide +kernel
theorem dX8_turnedOnce_6 : decode cX8_turnedOnce 6 = .ok (.if_icmp .ge 42, 3) := by decide +kernel
theorem dX8_turnedOnce_9 : decode cX8_turnedOnce 9 = .ok (.iconst 0, 1) := by decide +kernel
theorem dX8_turnedOnce_10 : decode cX8_turnedOnce 10 = .ok (.istore_n 3, 1) := by decide +kernel
theorem dX8_turnedOnce_11 : decode cX8_turnedOnce 11 = .ok (.iload_n 3, 1) := by decide +kernel
theorem dX8_turnedOnce_12 : decode cX8_turnedOnce 12 = .ok (.iconst 4, 1) := by decide +kernel
theorem dX8_turnedOnce_13 : decode cX8_turnedOnce 13 = .ok (.if_icmp .ge 29, 3) := by decide +kernel
theorem dX8_turnedOnce_16 : decode cX8_turnedOnce 16 = .ok (.iload_n 1, 1) := by decide +kernel
theorem dX8_turnedOnce_17 : decode cX8_turnedOnce 17 = .ok (.iload_n 0, 1) := by decide +kernel
theorem dX8_turnedOnce_18 : decode cX8_turnedOnce 18 = .ok (.iload_n 2, 1) := by decide +kernel
theorem dX8_turnedOnce_19 : decode cX8_turnedOnce 19 = .ok (.iload_n 3, 1) := by decide +kernel
theorem dX8_turnedOnce_20 : decode cX8_turnedOnce 20 = .ok (.invokestatic 124, 3) := by decide +kernel
theorem dX8_turnedOnce_23 : decode cX8_turnedOnce 23 = .ok (.ishr, 1) := by decide +kernel
theorem dX8_turnedOnce_24 : decode cX8_turnedOnce 24 = .ok (.iconst 1, 1) := by decide +kernel
theorem dX8_turnedOnce_25 : decode cX8_turnedOnce 25 = .ok (.iand, 1) := by decide +kernel
theorem dX8_turnedOnce_26 : decode cX8_turnedOnce 26 = .ok (.iload_n 3, 1) := by decide +kernel
theorem dX8_turnedOnce_27 : decode cX8_turnedOnce 27 = .ok (.iconst 3, 1) := by decide +kernel
theorem dX8_turnedOnce_28 : decode cX8_turnedOnce 28 = .ok (.iload_n 2, 1) := by decide +kernel
theorem dX8_turnedOnce_29 : decode cX8_turnedOnce 29 = .ok (.isub, 1) := by decide +kernel
theorem dX8_turnedOnce_30 : decode cX8_turnedOnce 30 = .ok (.invokestatic 124, 3) := by decide +kernel
theorem dX8_turnedOnce_33 : decode cX8_turnedOnce 33 = .ok (.ishl, 1) := by decide +kernel
theorem dX8_turnedOnce_34 : decode cX8_turnedOnce 34 = .ok (.ior, 1) := by decide +kernel
theorem dX8_turnedOnce_35 : decode cX8_turnedOnce 35 = .ok (.istore_n 1, 1) := by decide +kernel
theorem dX8_turnedOnce_36 : decode cX8_turnedOnce 36 = .ok (.iinc 3 1, 3) := by decide +kernel
theorem dX8_turnedOnce_39 : decode cX8_turnedOnce 39 = .ok (.goto (-28), 3) := by decide +kernel
theorem dX8_turnedOnce_42 : decode cX8_turnedOnce 42 = .ok (.iinc 2 1, 3) := by decide +kernel
theorem dX8_turnedOnce_45 : decode cX8_turnedOnce 45 = .ok (.goto (-41), 3) := by decide +kernel
theorem dX8_turnedOnce_48 : decode cX8_turnedOnce 48 = .ok (.iload_n 1, 1) := by decide +kernel
theorem dX8_turnedOnce_49 : decode cX8_turnedOnce 49 = .ok (.ireturn, 1) := by decide +kernel
set_option maxRecDepth 100000 in
theorem r_X8_turnedOnce_0 {X : Bn} (C : Cx X cX8_turnedOnce 4 RX8 wsX8_turnedOnce 1 21) {ws : va_W} (x0 : Int32) (h : At X 4 (ws) 4 [(0, .int x0), (1, .int 0), (2, .int 0)] []) : At X 4 (ws) 0 [(0, .int x0)] [] := by
  refine at_iconst C dX8_turnedOnce_0 (v := 0) rfl ?_
  refine at_istore_n C dX8_turnedOnce_1 rfl (by decide) (lv' := [(1, .int 0), (0, .int x0)]) rfl ?_
  refine at_iconst C dX8_turnedOnce_2 (v := 0) rfl ?_
  refine at_istore_n C dX8_turnedOnce_3 rfl (by decide) (lv' := [(2, .int 0), (1, .int 0), (0, .int x0)]) rfl ?_
  refine at_lv [2, 1, 0] rfl ?_
  exact h
set_option maxRecDepth 100000 in
theorem r_X8_turnedOnce_4 {X : Bn} (C : Cx X cX8_turnedOnce 4 RX8 wsX8_turnedOnce 1 21) {ws : va_W} (x0 : Int32) (x1 : Int32) (x2 : Int32) (h : ((4 ≤ x2) → (Ends X (some .int) (some (.int x1)) (ws))) ∧ (¬ 4 ≤ x2 → (At X 4 (ws) 11 [(0, .int x0), (1, .int x1), (2, .int x2), (3, .int 0)] []))) : At X 4 (ws) 4 [(0, .int x0), (1, .int x1), (2, .int x2)] [] := by
  refine at_iload_n C dX8_turnedOnce_4 rfl (j := 2) rfl ?_
  refine at_iconst C dX8_turnedOnce_5 (v := 4) rfl ?_
  refine at_icmp_ge C dX8_turnedOnce_6 (tgt := 48) (by decide) (fun hc => ?_) (fun hc => ?_)
  · replace h := h.1 hc
    refine at_iload_n C dX8_turnedOnce_48 rfl (j := 1) rfl ?_
    exact at_iret C dX8_turnedOnce_49 h
  · replace h := h.2 hc
    refine at_iconst C dX8_turnedOnce_9 (v := 0) rfl ?_
    refine at_istore_n C dX8_turnedOnce_10 rfl (by decide) (lv' := [(3, .int 0), (0, .int x0), (1, .int x1), (2, .int x2)]) rfl ?_
    refine at_lv [1, 2, 3, 0] rfl ?_
    exact h
set_option maxRecDepth 100000 in
theorem r_X8_turnedOnce_11 {X : Bn} (C : Cx X cX8_turnedOnce 4 RX8 wsX8_turnedOnce 1 21) {ws : va_W} (x0 : Int32) (x1 : Int32) (x2 : Int32) (x3 : Int32) (h : ((4 ≤ x3) → (At X 4 (ws) 4 [(0, .int x0), (1, .int x1), (2, .int (x2 + 1))] [])) ∧ (¬ 4 ≤ x3 → (At X 4 (ws) 11 [(0, .int x0), (1, .int (x1 ||| (ishl ((isar x0 (f_X8_bitOf x2 x3)) &&& 1) (f_X8_bitOf x3 (3 - x2))))), (2, .int x2), (3, .int (x3 + 1))] []))) : At X 4 (ws) 11 [(0, .int x0), (1, .int x1), (2, .int x2), (3, .int x3)] [] := by
  refine at_iload_n C dX8_turnedOnce_11 rfl (j := 3) rfl ?_
  refine at_iconst C dX8_turnedOnce_12 (v := 4) rfl ?_
  refine at_icmp_ge C dX8_turnedOnce_13 (tgt := 42) (by decide) (fun hc => ?_) (fun hc => ?_)
  · replace h := h.1 hc
    refine at_iinc C dX8_turnedOnce_42 (j := 2) (v := x2 + 1) rfl rfl (by decide) (lv' := [(2, .int (x2 + 1)), (0, .int x0), (1, .int x1), (3, .int x3)]) rfl ?_
    refine at_goto C dX8_turnedOnce_45 (tgt := 4) (by decide) ?_
    refine at_lv [1, 2, 0] rfl ?_
    exact h
  · replace h := h.2 hc
    refine at_iload_n C dX8_turnedOnce_16 rfl (j := 1) rfl ?_
    refine at_iload_n C dX8_turnedOnce_17 rfl (j := 0) rfl ?_
    refine at_iload_n C dX8_turnedOnce_18 rfl (j := 2) rfl ?_
    refine at_iload_n C dX8_turnedOnce_19 rfl (j := 3) rfl ?_
    refine at_cS0 C 2 (c_X8_bitOf X.l X.D X.E X.a1 X.a2 x2 x3) gX8_turnedOnce_X8_bitOf rfl (by decide +kernel) ⟨rfl, rfl⟩ rfl rfl rfl dX8_turnedOnce_20 ?_
    refine at_ishr C dX8_turnedOnce_23 ?_
    refine at_iconst C dX8_turnedOnce_24 (v := 1) rfl ?_
    refine at_iand C dX8_turnedOnce_25 ?_
    refine at_iload_n C dX8_turnedOnce_26 rfl (j := 3) rfl ?_
    refine at_iconst C dX8_turnedOnce_27 (v := 3) rfl ?_
    refine at_iload_n C dX8_turnedOnce_28 rfl (j := 2) rfl ?_
    refine at_isub C dX8_turnedOnce_29 ?_
    refine at_cS0 C 2 (c_X8_bitOf X.l X.D X.E X.a1 X.a2 x3 (3 - x2)) gX8_turnedOnce_X8_bitOf rfl (by decide +kernel) ⟨rfl, rfl⟩ rfl rfl rfl dX8_turnedOnce_30 ?_
    refine at_ishl C dX8_turnedOnce_33 ?_
    refine at_ior C dX8_turnedOnce_34 ?_
    refine at_istore_n C dX8_turnedOnce_35 rfl (by decide) (lv' := [(1, .int (x1 ||| (ishl ((isar x0 (f_X8_bitOf x2 x3)) &&& 1) (f_X8_bitOf x3 (3 - x2))))), (0, .int x0), (2, .int x2), (3, .int x3)]) rfl ?_
    refine at_iinc C dX8_turnedOnce_36 (j := 3) (v := x3 + 1) rfl rfl (by decide) (lv' := [(3, .int (x3 + 1)), (1, .int (x1 ||| (ishl ((isar x0 (f_X8_bitOf x2 x3)) &&& 1) (f_X8_bitOf x3 (3 - x2))))), (0, .int x0), (2, .int x2)]) rfl ?_
    refine at_goto C dX8_turnedOnce_39 (tgt := 11) (by decide) ?_
    refine at_lv [2, 1, 3, 0] rfl ?_
    exact h
def tnStep (x : Int32) (r c : Nat) (a : Int32) : Int32 := a ||| (ishl ((isar x (f_X8_bitOf (nI r) (nI c))) &&& 1) (f_X8_bitOf (nI c) (3 - nI r)))
def f_X8_turnedOnce (x : Int32) : Int32 := itF (fun r a => itF (fun c a => tnStep x r c a) 0 4 a) 0 4 0
theorem c_X8_turnedOnce (l : Launch) (D : va_G) (E : Nat → ClassId) (a1 a2 : Nat) (x0 : Int32) : Fn l D E a1 a2 yX8_turnedOnce wsX8_turnedOnce 1 21 [.int x0] [] (some (.int (f_X8_turnedOnce x0))) [] := by
  refine Fn.of (cc := cX8_turnedOnce) (maxL := 4) (ret := (some .int)) (own := RX8) (by decide) rfl rfl rfl (Nat.le_of_ble_eq_true rfl) (fun X h1 h2 h3 h4 h5 C hE => ?_)
  subst h1 h2 h3 h4 h5
  refine r_X8_turnedOnce_0 C x0 ?_
  refine for_go (P := fun r a => At X 4 [] 4 [(0, .int x0), (1, .int a), (2, .int (nI r))] []) (N := 4) (fun r a => itF (fun c a => tnStep x0 r c a) 0 4 a) (fun r a hr h => ?_) 4 0 0 rfl ?_
  · refine r_X8_turnedOnce_4 C x0 a (nI r) ⟨fun hc => nlt_no (by decide) hr hc, fun _ => ?_⟩
    refine for_go (P := fun c a => At X 4 [] 11 [(0, .int x0), (1, .int a), (2, .int (nI r)), (3, .int (nI c))] []) (N := 4) (fun c a => tnStep x0 r c a) (fun c a hc h => ?_) 4 0 a rfl ?_
    · exact r_X8_turnedOnce_11 C x0 a (nI r) (nI c) ⟨fun q => nlt_no (by decide) hc q, fun _ => by rw [nI_1]; exact h⟩
    · exact r_X8_turnedOnce_11 C x0 _ (nI r) (nI 4) ⟨fun _ => by rw [nI_1]; exact h, fun q => nle_no q⟩
  · exact r_X8_turnedOnce_4 C x0 _ (nI 4) ⟨fun _ => hE, fun q => nle_no q⟩
